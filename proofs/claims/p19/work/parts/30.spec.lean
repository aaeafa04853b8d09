/-! the pure functions: what the methods answer -/
def dr (a b : Nat) : Int32 := if a < b then nI 1 else if b < a then (-1) else nI 0
def dist (a b : Nat) : Nat := if a < b then b - a else a - b
def lcB (fx fy sx sy : Int32) (k : Nat) : Int32 := nI 1 <<< ((((fy + nI k * sy) * nI 5 + fx) + nI k * sx) &&& 31)
def lcF (fx fy sx sy : Int32) : Nat → Int32
  | 0 => nI 0
  | k + 1 => lcF fx fy sx sy k ||| lcB fx fy sx sy k
def lnN (a b c d : Nat) : Nat := max (dist a c) (dist b d) + 1
def colm (x : Nat) : Int32 := lcF (nI x) (nI 0) (dr x x) (dr 0 4) (lnN x 0 x 4)
def hcC (s : Int32) (x : Nat) : Bool := !decide (s &&& colm x = 0)
def bitI (s : Int32) (j : Nat) : Int32 := (s >>> (nI j &&& 31)) &&& nI 1
def hcR (s : Int32) (x : Nat) : Nat → Bool
  | 0 => false
  | y + 1 => hcR s x y || decide (bitI s (5 * y + x) = nI 1)
def wfF (h : Nat → Bool) : Nat → Int32 × Int32
  | 0 => (-1, -1)
  | k + 1 => if h k then ((if (wfF h k).1 = -1 then nI k else (wfF h k).1), nI k) else wfF h k
def wdF (h : Nat → Bool) : Int32 := if (wfF h 5).1 = -1 then nI 2 else (wfF h 5).2 - (wfF h 5).1 + nI 1
def bsum (s : Int32) : Nat → Int32
  | 0 => nI 0
  | k + 1 => bsum s k + bitI s k
def df (a b : Int32) : Int32 := bsum (a ^^^ b) 25
def dg (t j : Nat) : Nat := t / 8 ^ j % 8
def inB (g : Int32) (n : Nat) : Bool := decide (¬ g < 0 ∧ ¬ nI n ≤ g)
def rgB (g lo hi : Int32) : Bool := decide (¬ g < lo ∧ ¬ hi < g)
def txB (t m : Int32) : Bool := rgB m (nI 1) (nI 5) && rgB t (nI 0) (nI (8 ^ m.toNatClampNeg - 1))
theorem inB_lt {g : Int32} {n : Nat} (h : g < 0) : inB g n = false := by simp [inB, h]
theorem inB_ge {g : Int32} {n : Nat} (h : nI n ≤ g) : inB g n = false := by simp [inB, h]
theorem inB_of {g : Int32} {n : Nat} (h1 : ¬ g < 0) (h2 : ¬ nI n ≤ g) : inB g n = true := by simp [inB, h1, h2]
theorem inB_ex {g : Int32} {n : Nat} (hn : n < 2 ^ 31) (h : inB g n = true) : ∃ k, k < n ∧ g = nI k := by
  simp only [inB, decide_eq_true_eq] at h
  rcases pk_ix g hn with q | q | ⟨j, h1, h2⟩
  · exact absurd q h.1
  · exact absurd q h.2
  · exact ⟨j, h1, h2⟩
theorem inB_nI {k n : Nat} (h : k < n) (hn : n < 2 ^ 31) : inB (nI k) n = true := inB_of (nI_pos (by omega)) (nI_ge h hn)
theorem rg_in (g : Int32) {n : Nat} (hn : n + 1 < 2 ^ 31) : rgB g (nI 0) (nI n) = inB g (n + 1) := by
  rcases pk_ix g hn with q | q | ⟨j, h1, h2⟩
  · rw [inB_lt q]
    have : g < nI 0 := by rw [nI_0]; exact q
    simp [rgB, this]
  · rw [inB_ge q]
    have h2 : nI n < g := by
      have e1 : (nI n).toInt = n := nI_toInt (by omega)
      have e2 : (nI (n + 1)).toInt = (n + 1 : Nat) := nI_toInt hn
      rw [fa_lt, e1]
      rw [fa_le, e2] at q
      omega
    simp [rgB, h2]
  · subst h2
    rw [inB_nI h1 hn]
    have e1 : ¬ nI j < nI 0 := by rw [nI_0]; exact nI_pos (by omega)
    have e2 : ¬ nI n < nI j := nI_nlt (by omega) (by omega)
    simp [rgB, e1, e2]
theorem rg_1 (m : Int32) (h : rgB m (nI 1) (nI 5) = true) : ∃ k, 1 ≤ k ∧ k ≤ 5 ∧ m = nI k := by
  simp only [rgB, decide_eq_true_eq] at h
  have h1 : ¬ m < 0 := fun q => h.1 (by
    rw [fa_lt] at q ⊢
    rw [nI_toInt (by decide)]
    have : (0 : Int32).toInt = 0 := by decide
    omega)
  obtain ⟨j, hj, rfl⟩ := nI_of h1
  have h2 : ¬ j < 1 := fun q => h.1 ((nI_ltI hj (by decide)).mpr q)
  have h3 : ¬ 5 < j := fun q => h.2 ((nI_ltI (by decide) hj).mpr q)
  exact ⟨j, by omega, by omega, rfl⟩
theorem rg_1nI {k : Nat} (h1 : 1 ≤ k) (h2 : k ≤ 5) : rgB (nI k) (nI 1) (nI 5) = true := by
  have e1 : ¬ nI k < nI 1 := nI_nlt h1 (by omega)
  have e2 : ¬ nI 5 < nI k := nI_nlt h2 (by omega)
  simp [rgB, e1, e2]
theorem p8_le {k : Nat} (h : k ≤ 5) : 8 ^ k ≤ 32768 := Nat.pow_le_pow_right (by decide) h
theorem p8_pos (k : Nat) : 0 < 8 ^ k := Nat.pow_pos (by decide)
theorem txB_k {t : Int32} {k : Nat} (h1 : 1 ≤ k) (h2 : k ≤ 5) : txB t (nI k) = inB t (8 ^ k) := by
  have h3 := p8_le h2
  have h4 := p8_pos k
  unfold txB
  rw [rg_1nI h1 h2, nI_clamp (by omega), rg_in t (by omega), Nat.sub_add_cancel (by omega), Bool.true_and]
theorem txB_no {t m : Int32} (h : rgB m (nI 1) (nI 5) = false) : txB t m = false := by unfold txB; rw [h]; rfl
theorem txB_ex {t m : Int32} (h : txB t m = true) : ∃ a k, 1 ≤ k ∧ k ≤ 5 ∧ a < 8 ^ k ∧ t = nI a ∧ m = nI k := by
  have h0 : rgB m (nI 1) (nI 5) = true := by
    unfold txB at h
    cases hr : rgB m (nI 1) (nI 5) with
    | true => rfl
    | false => rw [hr] at h; cases h
  obtain ⟨k, h1, h2, rfl⟩ := rg_1 m h0
  rw [txB_k h1 h2] at h
  obtain ⟨a, h3, h4⟩ := inB_ex (by have := p8_le h2; omega) h
  exact ⟨a, k, h1, h2, h3, h4, rfl⟩
theorem txB_nI {a k : Nat} (h1 : 1 ≤ k) (h2 : k ≤ 5) (h3 : a < 8 ^ k) : txB (nI a) (nI k) = true := by
  rw [txB_k h1 h2]
  exact inB_nI h3 (by have := p8_le h2; omega)
theorem shl8 : ∀ k, k < 6 → nI 1 <<< (nI (3 * k) &&& 31) = nI (8 ^ k) := by decide
theorem mulI (a b : Nat) : nI a * nI b = nI (a * b) := pk_mul a b
theorem absd : ∀ a, a < 5 → ∀ c, c < 5 → (if 0 ≤ nI c - nI a then nI c - nI a else 0 - (nI c - nI a)) = nI (dist a c) := by decide
theorem dist_lt : ∀ a, a < 5 → ∀ c, c < 5 → dist a c < 5 := by decide
theorem maxd : ∀ a, a < 5 → ∀ c, c < 5 → (if nI a < nI c then nI c else nI a) = nI (max a c) := by decide
theorem packN {t k : Nat} (ht : t < 32768) (hk : k ≤ 5) : (nI k <<< (nI 15 &&& 31)) ||| nI t = nI (32768 * k + t) := by
  have e : nI k <<< (nI 15 &&& 31) = nI (2 ^ 15 * k) := by
    have h : ∀ k, k < 6 → nI k <<< (nI 15 &&& 31) = nI (2 ^ 15 * k) := by decide
    exact h k (by omega)
  rw [e]
  exact fa_or_sum (k := 15) k ht
theorem manyN {t k : Nat} (ht : t < 32768) (hk : k ≤ 5) : nI (32768 * k + t) >>> (nI 15 &&& 31) = nI k := by
  rw [pk_shrN (k := 15) (by omega) _ (by decide)]
  congr 1
  omega
theorem numN {t k : Nat} (ht : t < 32768) : nI (32768 * k + t) &&& nI 32767 = nI t := by
  have h : nI (32768 * k + t) &&& nI (2 ^ 15 - 1) = nI ((32768 * k + t) % 2 ^ 15) := fa_mask _ 15
  have e : (32768 * k + t) % 2 ^ 15 = t := by omega
  rw [e] at h
  exact h
theorem dig5 {t k j : Nat} (hj : j < 5) : (32768 * k + t) / 8 ^ j % 8 = dg t j := by
  unfold dg
  have h : j = 0 ∨ j = 1 ∨ j = 2 ∨ j = 3 ∨ j = 4 := by omega
  rcases h with rfl | rfl | rfl | rfl | rfl <;> omega
theorem dg_lt (t j : Nat) : dg t j < 8 := Nat.mod_lt _ (by decide)
theorem glyN {P j : Nat} (hP : P < 2 ^ 31) (hj : j < 5) : (nI P >>> (nI (3 * j) &&& 31)) &&& nI 7 = nI (P / 8 ^ j % 8) := by
  have hs : (((nI (3 * j) &&& 31).toBitVec.smod 32).toNat) = 3 * j := by
    have h : ∀ j, j < 5 → (((nI (3 * j) &&& 31).toBitVec.smod 32).toNat) = 3 * j := by decide
    exact h j hj
  rw [pk_shrN hP _ (3 * j) hs]
  have h := fa_mask (P / 2 ^ (3 * j)) 3
  have e : P / 2 ^ (3 * j) % 2 ^ 3 = P / 8 ^ j % 8 := by rw [Nat.pow_mul]
  rw [e] at h
  exact h
