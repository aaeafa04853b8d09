/-! the pure functions over states -/
def ix (n : Nat) : Int32 := if n = 8 then -1 else nI n
theorem ix_lt {n : Nat} (h : n < 8) : ix n = nI n := by rw [ix, if_neg (by omega)]
theorem ix_8 : ix 8 = -1 := rfl
theorem ix_0 {n : Nat} (h : n ≤ 8) : ix n = 0 ↔ n = 0 := by
  have h2 : ∀ n, n < 9 → (ix n = 0 ↔ n = 0) := by decide
  exact h2 n (by omega)
theorem ix_m1 {n : Nat} (h : n ≤ 8) : ix n = -1 ↔ n = 8 := by
  have h2 : ∀ n, n < 9 → (ix n = -1 ↔ n = 8) := by decide
  exact h2 n (by omega)
theorem ix_eq {n i : Nat} (h : n ≤ 8) (hi : i < 8) : nI i = ix n ↔ i = n := by
  have h2 : ∀ n, n < 9 → ∀ i, i < 8 → (nI i = ix n ↔ i = n) := by decide
  exact h2 n (by omega) i hi
def nrN (d : Nat → Int32) (but : Nat) : Nat → Nat
  | 0 => 8
  | g + 1 => if g ≠ but ∧ (nrN d but g = 8 ∨ d g < d (nrN d but g)) then g else nrN d but g
theorem nrN_s (d : Nat → Int32) (but g : Nat) : nrN d but (g + 1) = if g ≠ but ∧ (nrN d but g = 8 ∨ d g < d (nrN d but g)) then g else nrN d but g := rfl
def nrS (but : Nat) : Nat := if but = 0 then 1 else 0
theorem nr_start (d : Nat → Int32) (but : Nat) : nrN d but (nrS but + 1) = nrS but := by
  unfold nrS
  by_cases h : but = 0
  · subst h
    simp [nrN]
  · have h2 : ¬ 0 = but := fun q => h q.symm
    simp [nrN, h, h2]
theorem nr_eq {d : Nat → Int32} {but i : Nat} (h : i = but) : nrN d but (i + 1) = nrN d but i := by
  rw [nrN_s, if_neg (fun q => q.1 h)]
theorem nr_lt {d : Nat → Int32} {but i n : Nat} (h : i ≠ but) (hn : n = nrN d but i) (hd : d i < d n) : i = nrN d but (i + 1) := by
  rw [nrN_s, if_pos ⟨h, Or.inr (by rw [← hn]; exact hd)⟩]
theorem nr_ge {d : Nat → Int32} {but i n : Nat} (hn : n = nrN d but i) (h8 : n < 8) (hd : ¬ d i < d n) : n = nrN d but (i + 1) := by
  rw [nrN_s, if_neg, ← hn]
  rintro ⟨-, q | q⟩
  · omega
  · exact hd (by rw [hn]; exact q)
theorem nr_mono {d : Nat → Int32} {but : Nat} : ∀ g, nrN d but g ≠ 8 → g ≤ 8 → nrN d but (g + 1) ≠ 8 ∨ g = 8 := by
  intro g h hg
  by_cases h8 : g = 8
  · exact Or.inr h8
  · refine Or.inl ?_
    rw [nrN_s]
    split
    · omega
    · exact h
theorem nr_lt8 (d : Nat → Int32) (but : Nat) : nrN d but 8 < 8 := by
  have key : ∀ g, nrS but + 1 ≤ g → g ≤ 8 → nrN d but g < 8 := by
    intro g
    induction g with
    | zero => intro h; omega
    | succ g ih =>
      intro h1 h2
      by_cases h : nrS but + 1 = g + 1
      · have h3 := nr_start d but
        rw [h] at h3
        have h4 : nrS but < 2 := by unfold nrS; split <;> decide
        omega
      · have h3 := ih (by omega) (by omega)
        rw [nrN_s]
        split <;> omega
  have h4 : nrS but < 2 := by unfold nrS; split <;> decide
  exact key 8 (by omega) (Nat.le_refl _)
def rdG (d : Nat → Int32) (ds : Int32) : Nat := if d (nrN d (nrN d 8 8) 8) - d (nrN d 8 8) < ds then nrN d (nrN d 8 8) 8 else nrN d 8 8
theorem rdG_lt (d : Nat → Int32) (ds : Int32) : rdG d ds < 8 := by
  unfold rdG
  split
  · exact nr_lt8 _ _
  · exact nr_lt8 _ _
def rtN (r : Nat → Nat) : Nat → Nat
  | 0 => 0
  | j + 1 => rtN r j + r j * 8 ^ j
theorem rtN_lt {r : Nat → Nat} (h : ∀ j, r j < 8) : ∀ k, rtN r k < 8 ^ k
  | 0 => Nat.one_pos
  | k + 1 => by
    have h1 := rtN_lt h k
    have h2 := h k
    show rtN r k + r k * 8 ^ k < 8 ^ k * 8
    have h3 : r k * 8 ^ k ≤ 7 * 8 ^ k := Nat.mul_le_mul_right _ (by omega)
    omega
theorem rt_or {a b j : Nat} (ha : a < 8 ^ j) (hb : b < 8) (hj : j < 5) : nI a ||| (nI b <<< (nI (3 * j) &&& 31)) = nI (a + b * 8 ^ j) := by
  have hs : ∀ j, j < 5 → (((nI (3 * j) &&& 31).toBitVec.smod 32).toNat) = 3 * j := by decide
  have e8 : 8 ^ j = 2 ^ (3 * j) := by rw [Nat.pow_mul]
  have h5 : 8 ^ j ≤ 4096 := Nat.pow_le_pow_right (n := 8) (by decide) (show j ≤ 4 by omega)
  have h6 : b * 8 ^ j ≤ 7 * 8 ^ j := Nat.mul_le_mul_right _ (by omega)
  rw [pk_shlN _ (3 * j) (hs j hj) (by rw [← e8]; omega), Int32.or_comm, ← e8, Nat.mul_comm b, e8, fa_or_sum b (by rw [← e8]; exact ha), Nat.add_comm]
def anyB (p : Nat → Bool) : Nat → Bool
  | 0 => false
  | n + 1 => anyB p n || p n
theorem anyB_t {p : Nat → Bool} {i : Nat} (h : p i = true) : ∀ {n : Nat}, i < n → anyB p n = true := by
  intro n
  induction n with
  | zero => intro q; omega
  | succ n ih =>
    intro q
    by_cases e : i = n
    · subst e; simp [anyB, h]
    · simp [anyB, ih (by omega)]
theorem anyB_cong {p q : Nat → Bool} : ∀ {n : Nat}, (∀ i, i < n → p i = q i) → anyB p n = anyB q n := by
  intro n
  induction n with
  | zero => intro _; rfl
  | succ n ih => intro h; rw [anyB, anyB, ih (fun i hi => h i (by omega)), h n (by omega)]
theorem anyB_iff {p : Nat → Bool} : ∀ {n : Nat}, anyB p n = true ↔ ∃ i, i < n ∧ p i = true := by
  intro n
  induction n with
  | zero =>
    constructor
    · intro h
      cases h
    · rintro ⟨i, h, -⟩
      omega
  | succ n ih =>
    rw [anyB, Bool.or_eq_true, ih]
    constructor
    · rintro (⟨i, h1, h2⟩ | h)
      · exact ⟨i, by omega, h2⟩
      · exact ⟨n, by omega, h⟩
    · rintro ⟨i, h1, h2⟩
      by_cases e : i = n
      · subst e; exact Or.inr h2
      · exact Or.inl ⟨i, by omega, h2⟩
def pwC (wd : Nat → Int32) (sp : Nat → Int32) (t : Nat) : Nat → Int32
  | 0 => nI 0
  | j + 1 => if 0 < j then (pwC wd sp t j + wd (dg t j)) + sp (dg t j * 8 + dg t (j - 1)) else pwC wd sp t j + wd (dg t j)
def pwR (wd : Nat → Int32) (sp : Nat → Int32) (t n : Nat) : Nat → Int32
  | 0 => nI 0
  | j + 1 => (pwR wd sp t n j + wd (dg t (n - 1 - j))) + (if 0 < j then sp (8 * dg t (n - 1 - (j - 1)) + dg t (n - 1 - j)) else nI 0)
def plF (x : Int32) : Int32 := if nI 10 < x then (if nI 20 < x then (if nI 30 < x then -1 else nI 10) else nI 7) else nI 4
-- walkers
def fb (b : Nat → Bool) : Nat → Nat
  | 0 => 4
  | n + 1 => if fb b n = 4 ∧ b n = true then n else fb b n
theorem fb_s (b : Nat → Bool) (n : Nat) : fb b (n + 1) = if fb b n = 4 ∧ b n = true then n else fb b n := rfl
theorem fb_stay {b : Nat → Bool} {n e : Nat} (h : fb b n = e) (he : e ≠ 4) : ∀ m, n ≤ m → fb b m = e := by
  intro m
  induction m with
  | zero => intro q; have : n = 0 := by omega
            subst this; exact h
  | succ m ih =>
    intro q
    by_cases e2 : n = m + 1
    · subst e2; exact h
    · have h2 := ih (by omega)
      rw [fb_s, if_neg (fun z => he (by rw [← h2]; exact z.1)), h2]
theorem fb_le (b : Nat → Bool) : ∀ n, n ≤ 4 → fb b n = 4 ∨ (fb b n < n ∧ b (fb b n) = true)
  | 0, _ => Or.inl rfl
  | n + 1, h => by
    rcases fb_le b n (by omega) with q | ⟨q1, q2⟩
    · by_cases hb : b n = true
      · rw [fb_s, if_pos ⟨q, hb⟩]; exact Or.inr ⟨by omega, hb⟩
      · rw [fb_s, if_neg (fun z => hb z.2)]; exact Or.inl q
    · have h3 : fb b n ≠ 4 := by omega
      rw [fb_s, if_neg (fun z => h3 z.1)]
      exact Or.inr ⟨by omega, q2⟩
def nxE (a b : Nat → Bool) : Nat := if fb a 4 = 4 then fb b 4 else fb a 4
def wv (p e : Nat) : Int32 := if e = 4 then -1 else nI (4 * p + e)
theorem wv_m1 {p e : Nat} (hp : p < 8) (he : e ≤ 4) : wv p e = -1 ↔ e = 4 := by
  have h : ∀ p, p < 8 → ∀ e, e < 5 → (wv p e = -1 ↔ e = 4) := by decide
  exact h p hp e (by omega)
theorem wv_lt {p e : Nat} (he : e < 4) : wv p e = nI (4 * p + e) := by rw [wv, if_neg (by omega)]
def nx (told : Nat → Bool) (Ld : Nat → Nat) (tk : Nat → Bool) (p : Nat) : Nat := nxE (fun e => decide (Ld (4 * p + e) ≠ 8) && told (4 * p + e)) (fun e => decide (Ld (4 * p + e) ≠ 8) && !tk (4 * p + e))
theorem nx_lt {told : Nat → Bool} {Ld : Nat → Nat} {tk : Nat → Bool} {p : Nat} : nx told Ld tk p = 4 ∨ (nx told Ld tk p < 4 ∧ Ld (4 * p + nx told Ld tk p) ≠ 8) := by
  unfold nx nxE
  split
  · rcases fb_le (fun e => decide (Ld (4 * p + e) ≠ 8) && !tk (4 * p + e)) 4 (Nat.le_refl _) with q | ⟨q1, q2⟩
    · exact Or.inl q
    · refine Or.inr ⟨q1, ?_⟩
      simp only [Bool.and_eq_true, decide_eq_true_eq] at q2
      exact q2.1
  · rename_i h
    rcases fb_le (fun e => decide (Ld (4 * p + e) ≠ 8) && told (4 * p + e)) 4 (Nat.le_refl _) with q | ⟨q1, q2⟩
    · exact absurd q h
    · refine Or.inr ⟨q1, ?_⟩
      simp only [Bool.and_eq_true, decide_eq_true_eq] at q2
      exact q2.1
def tkA (tk : Nat → Bool) (w : Nat) : Nat → Bool := fun v => tk v || decide (v = w)
def sa (told : Nat → Bool) (Ld : Nat → Nat) (arr : Nat → Bool) : Nat → Nat → Nat → (Nat → Bool) → Int32
  | 0, _, _, _ => -1
  | f + 1, n, p, tk => if arr p then nI n else if nx told Ld tk p = 4 then -1 else sa told Ld arr f (n + 1) (Ld (4 * p + nx told Ld tk p)) (tkA tk (4 * p + nx told Ld tk p))
def pl (told : Nat → Bool) (Ld : Nat → Nat) (arr : Nat → Bool) : Nat → Nat → (Nat → Bool) → Nat
  | 0, p, _ => p
  | f + 1, p, tk => if arr p then p else if nx told Ld tk p = 4 then p else pl told Ld arr f (Ld (4 * p + nx told Ld tk p)) (tkA tk (4 * p + nx told Ld tk p))
def tk0 : Nat → Bool := fun _ => false
/-- the taken exits as bits of an int -/
def tkR (x : Int32) (tk : Nat → Bool) : Prop := ∀ w, w < 32 → (x &&& (nI 1 <<< (nI w &&& 31)) = 0 ↔ tk w = false)
theorem tkR_0 : tkR (nI 0) tk0 := by
  intro w hw
  have h : ∀ w, w < 32 → nI 0 &&& (nI 1 <<< (nI w &&& 31)) = 0 := by decide
  exact ⟨fun _ => rfl, fun _ => h w hw⟩
theorem bitT {x : Int32} {w : Nat} (hw : w < 32) : x &&& (nI 1 <<< (nI w &&& 31)) = 0 ↔ bt x w = false := by
  have h1 : ∀ w, w < 32 → ∀ i, i < 32 → bt (nI 1 <<< (nI w &&& 31)) i = decide (i = w) := by decide +kernel
  constructor
  · intro h
    have h2 : bt (x &&& (nI 1 <<< (nI w &&& 31))) w = false := by rw [h]; exact b_0 w
    rw [b_and, h1 w hw w hw] at h2
    simpa using h2
  · intro h
    refine b_ext fun i hi => ?_
    rw [b_and, h1 w hw i hi, b_0]
    by_cases e : i = w
    · subst e; simp [h]
    · simp [e]
theorem tkR_add {x : Int32} {tk : Nat → Bool} (h : tkR x tk) {w : Nat} (hw : w < 32) : tkR (x ||| (nI 1 <<< (nI w &&& 31))) (tkA tk w) := by
  intro v hv
  have h1 : ∀ w, w < 32 → ∀ i, i < 32 → bt (nI 1 <<< (nI w &&& 31)) i = decide (i = w) := by decide +kernel
  have h2 := h v hv
  rw [bitT hv] at h2 ⊢
  rw [b_or, h1 w hw v hv]
  unfold tkA
  rw [Bool.or_eq_false_iff, Bool.or_eq_false_iff, h2]
-- the worlds: the class's object and its rows; the reference's
abbrev wx (cI : ClassId) (q : Nat → Nat) (sh sp ld nm tx ds ct : Nat → Int32) (co : Int64) (kg : Int32) (ks : Nat → Int32) : va_W := [(q 0, .inr (0, [.ref (q 1), .ref (q 2), .ref (q 3), .ref (q 4), .ref (q 5), .ref (q 6), .ref (q 7), .long co, .int kg, .ref (q 8)])), (q 1, .inl (cI, 8, .inl sh)), (q 2, .inl (cI, 64, .inl sp)), (q 3, .inl (cI, 32, .inl ld)), (q 4, .inl (cI, 8, .inl nm)), (q 5, .inl (cI, 32, .inl tx)), (q 6, .inl (cI, 32, .inl ds)), (q 7, .inl (cI, 160, .inl ct)), (q 8, .inl (cI, 8, .inl ks))]
abbrev wm (cI cZ : ClassId) (q : Nat → Nat) (th : Int32) (sh sp ld nm nk tx mn ds ct : Nat → Int32) (co : Int64) (st at0 ha : Int32) (tk : Nat → Int32) : va_W := [(q 0, .inr (1, [.int th, .ref (q 1), .ref (q 2), .ref (q 3), .ref (q 4), .ref (q 5), .ref (q 6), .ref (q 7), .ref (q 8), .ref (q 9), .long co, .int st, .int at0, .int ha, .ref (q 10)])), (q 1, .inl (cI, 8, .inl sh)), (q 2, .inl (cI, 64, .inl sp)), (q 3, .inl (cI, 32, .inl ld)), (q 4, .inl (cI, 8, .inl nm)), (q 5, .inl (cI, 8, .inl nk)), (q 6, .inl (cI, 32, .inl tx)), (q 7, .inl (cI, 32, .inl mn)), (q 8, .inl (cI, 32, .inl ds)), (q 9, .inl (cI, 160, .inl ct)), (q 10, .inl (cZ, 32, .inl tk))]
