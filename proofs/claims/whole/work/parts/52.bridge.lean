theorem bitI_if (s : Int32) {j : Nat} (hj : j < 32) : bitI s j = if bt s j = true then nI 1 else nI 0 := by
  have h1 : ∀ i, i < 32 → bt (nI 1) i = decide (i = 0) := by decide +kernel
  have h0 : ∀ i, i < 32 → bt (nI 0) i = false := by decide +kernel
  refine b_ext fun i hi => ?_
  unfold bitI
  rw [b_and, b_sshr j hj s hi, h1 i hi]
  by_cases e : i = 0
  · subst e
    rw [Nat.add_zero, if_pos hj, decide_eq_true rfl, Bool.and_true]
    by_cases hb : bt s j = true
    · rw [if_pos hb, hb, h1 0 hi]; rfl
    · rw [if_neg hb, h0 0 hi]; simpa using hb
  · rw [decide_eq_false e, Bool.and_false]
    by_cases hb : bt s j = true
    · rw [if_pos hb, h1 i hi, decide_eq_false e]
    · rw [if_neg hb, h0 i hi]
theorem bitI_1 (s : Int32) {j : Nat} (hj : j < 32) : bitI s j = nI 1 ↔ bt s j = true := by
  rw [bitI_if s hj]
  constructor
  · intro h
    by_cases hb : bt s j = true
    · exact hb
    · rw [if_neg hb] at h
      exact absurd h (by decide)
  · intro h
    rw [if_pos h]
theorem hcR_iff (s : Int32) (x : Nat) : ∀ n, n ≤ 5 → x < 5 → (hcR s x n = true ↔ ∃ y, y < n ∧ bt s (5 * y + x) = true)
  | 0, _, _ => by
    constructor
    · intro h; cases h
    · rintro ⟨y, h, -⟩; omega
  | n + 1, h1, h2 => by
    rw [hcR, Bool.or_eq_true, hcR_iff s x n (by omega) h2, decide_eq_true_eq, bitI_1 s (by omega)]
    constructor
    · rintro (⟨y, h3, h4⟩ | h)
      · exact ⟨y, by omega, h4⟩
      · exact ⟨n, by omega, h⟩
    · rintro ⟨y, h3, h4⟩
      by_cases e : y = n
      · subst e; exact Or.inr h4
      · exact Or.inl ⟨y, by omega, h4⟩
theorem colm_b : ∀ x, x < 5 → ∀ i, i < 32 → bt (colm x) i = decide (i < 25 ∧ i % 5 = x) := by decide +kernel
theorem hc_eq (s : Int32) {x : Nat} (hx : x < 5) : hcC s x = hcR s x 5 := by
  rw [Bool.eq_iff_iff, hcR_iff s x 5 (Nat.le_refl _) hx]
  unfold hcC
  rw [Bool.not_eq_true', decide_eq_false_iff_not]
  constructor
  · intro h
    by_cases hn : ∃ y, y < 5 ∧ bt s (5 * y + x) = true
    · exact hn
    · refine absurd (b_ext fun i hi => ?_) h
      rw [b_and, colm_b x hx i hi, b_0]
      by_cases e : i < 25 ∧ i % 5 = x
      · have h3 : ¬ bt s i = true := fun q => hn ⟨i / 5, by omega, by rw [show 5 * (i / 5) + x = i by omega]; exact q⟩
        simp at h3
        rw [h3, Bool.false_and]
      · rw [decide_eq_false e, Bool.and_false]
  · rintro ⟨y, h1, h2⟩ h3
    have h4 : bt (s &&& colm x) (5 * y + x) = true := by
      rw [b_and, h2, colm_b x hx _ (by omega), decide_eq_true ⟨by omega, by omega⟩]; rfl
    rw [h3, b_0] at h4
    cases h4
theorem wfF_cong {h h2 : Nat → Bool} : ∀ n, (∀ k, k < n → h k = h2 k) → wfF h n = wfF h2 n
  | 0, _ => rfl
  | n + 1, q => by
    rw [wfF, wfF, wfF_cong n (fun k hk => q k (by omega)), q n (by omega)]
theorem wd_eq (sh : Nat → Int32) : wdS sh = wdR sh := by
  funext g
  show wdF (hcC (sh g)) = wdF (hcW (sh g))
  unfold wdF
  rw [wfF_cong 5 (fun k hk => hc_eq (sh g) hk)]
theorem df_comm (a b : Int32) : df a b = df b a := by
  unfold df
  rw [Int32.xor_comm]
theorem d_eq (sh : Nat → Int32) (x : Int32) : dS sh x = dR sh x := by
  funext g
  exact df_comm _ _
theorem pw_eq (wd sp : Nat → Int32) (t : Nat) {k : Nat} (hk : k ≤ 5) : pwC wd sp t k = pwR wd sp t k k := by
  have h : k = 0 ∨ k = 1 ∨ k = 2 ∨ k = 3 ∨ k = 4 ∨ k = 5 := by omega
  have z : ∀ x : Int32, x + nI 0 = x := fun x => by rw [nI_0, Int32.add_zero]
  have z2 : ∀ x : Int32, nI 0 + x = x := fun x => by rw [nI_0, Int32.zero_add]
  rcases h with rfl | rfl | rfl | rfl | rfl | rfl
  · rfl
  · simp [pwC, pwR, z, z2]
  · simp [pwC, pwR, z, z2, Nat.mul_comm 8]; ac_rfl
  · simp [pwC, pwR, z, z2, Nat.mul_comm 8]; ac_rfl
  · simp [pwC, pwR, z, z2, Nat.mul_comm 8]; ac_rfl
  · simp [pwC, pwR, z, z2, Nat.mul_comm 8]; ac_rfl
theorem rt_eq {r r2 : Nat → Nat} {k : Nat} (hk : k ≤ 5) (h : ∀ j, j < k → r j = r2 (k - 1 - j)) : rtN r k = rrN r2 k := by
  have hc : k = 0 ∨ k = 1 ∨ k = 2 ∨ k = 3 ∨ k = 4 ∨ k = 5 := by omega
  rcases hc with rfl | rfl | rfl | rfl | rfl | rfl
  · rfl
  · have h0 := h 0 (by decide)
    simp [rtN, rrN] at h0 ⊢; omega
  · have h0 := h 0 (by decide); have h1 := h 1 (by decide)
    simp [rtN, rrN] at h0 h1 ⊢; omega
  · have h0 := h 0 (by decide); have h1 := h 1 (by decide); have h2 := h 2 (by decide)
    simp [rtN, rrN] at h0 h1 h2 ⊢; omega
  · have h0 := h 0 (by decide); have h1 := h 1 (by decide); have h2 := h 2 (by decide); have h3 := h 3 (by decide)
    simp [rtN, rrN] at h0 h1 h2 h3 ⊢; omega
  · have h0 := h 0 (by decide); have h1 := h 1 (by decide); have h2 := h 2 (by decide); have h3 := h 3 (by decide); have h4 := h 4 (by decide)
    simp [rtN, rrN] at h0 h1 h2 h3 h4 ⊢; omega
theorem any_rev {p p2 : Nat → Bool} {k : Nat} (h : ∀ j, j < k → p j = p2 (k - 1 - j)) : anyB p k = anyB p2 k := by
  rw [Bool.eq_iff_iff, anyB_iff, anyB_iff]
  constructor
  · rintro ⟨i, h1, h2⟩
    exact ⟨k - 1 - i, by omega, by rw [← h i h1]; exact h2⟩
  · rintro ⟨i, h1, h2⟩
    refine ⟨k - 1 - i, by omega, ?_⟩
    rw [h _ (by omega), show k - 1 - (k - 1 - i) = i by omega]
    exact h2
/-- the cuts of one way: the class counts from the end, the reference from the start -/
def ctRel (K : Nat → Nat) (ct ct2 : Nat → Int32) : Prop := ∀ w, w < 32 → ∀ j, j < K w → S25 (ct (w * 5 + j)) ∧ ct (w * 5 + j) = ct2 (5 * w + (K w - 1 - j))
theorem old_eq {K : Nat → Nat} {sh ct ct2 : Nat → Int32} {w t : Nat} (hc : ∀ j, j < K w → S25 (ct (w * 5 + j)) ∧ ct (w * 5 + j) = ct2 (5 * w + (K w - 1 - j))) : anyB (oldC sh ct w t) (K w) = anyB (oldR sh ct2 w t (K w)) (K w) := by
  refine any_rev fun j hj => ?_
  show decide (ct (w * 5 + j) ≠ sh (dg t j)) = decide (ct2 (5 * w + (K w - 1 - j)) ≠ sh (dg t (K w - 1 - (K w - 1 - j))))
  rw [(hc j hj).2, show K w - 1 - (K w - 1 - j) = j by omega]
theorem read_eq {K : Nat → Nat} {sh ct ct2 ds : Nat → Int32} {w : Nat} (hk : K w ≤ 5) (hc : ∀ j, j < K w → S25 (ct (w * 5 + j)) ∧ ct (w * 5 + j) = ct2 (5 * w + (K w - 1 - j))) : rtN (rdS sh ct ds w) (K w) = rrN (rdR sh ct2 ds w) (K w) := by
  refine rt_eq hk fun j hj => ?_
  show rdG (dS sh (ct (w * 5 + j))) (ds w) = rdG (dR sh (ct2 (5 * w + (K w - 1 - j)))) (ds w)
  rw [(hc j hj).2, d_eq]
theorem told_eq {K : Nat → Nat} {sh ct ct2 ds : Nat → Int32} (hK : ∀ w, w < 32 → K w ≤ 5) (hc : ctRel K ct ct2) (gk gt : Nat) {w : Nat} (hw : w < 32) : toldC sh ct ds K gk gt w = toldR sh ct2 ds K gk gt w := by
  show decide (K w = gk ∧ rtN (rdS sh ct ds w) (K w) = gt) = decide (K w = gk ∧ rrN (rdR sh ct2 ds w) (K w) = gt)
  rw [read_eq (hK w hw) (hc w hw)]
theorem fb_cong {b b2 : Nat → Bool} : ∀ n, (∀ k, k < n → b k = b2 k) → fb b n = fb b2 n
  | 0, _ => rfl
  | n + 1, q => by
    rw [fb_s, fb_s, fb_cong n (fun k hk => q k (by omega)), q n (by omega)]
theorem nx_cong {t1 t2 : Nat → Bool} {Ld : Nat → Nat} {tk : Nat → Bool} {p : Nat} (hp : p < 8) (h : ∀ w, w < 32 → t1 w = t2 w) : nx t1 Ld tk p = nx t2 Ld tk p := by
  unfold nx nxE
  rw [fb_cong (b := fun e => decide (Ld (4 * p + e) ≠ 8) && t1 (4 * p + e)) (b2 := fun e => decide (Ld (4 * p + e) ≠ 8) && t2 (4 * p + e)) 4 (fun k hk => by rw [h _ (by omega)])]
theorem sa_cong {t1 t2 : Nat → Bool} {Ld : Nat → Nat} {arr : Nat → Bool} (hL : ∀ w, w < 32 → Ld w ≤ 8) (h : ∀ w, w < 32 → t1 w = t2 w) : ∀ f n p tk, p < 8 → sa t1 Ld arr f n p tk = sa t2 Ld arr f n p tk
  | 0, _, _, _, _ => rfl
  | f + 1, n, p, tk, hp => by
    have h1 := nx_cong (Ld := Ld) (tk := tk) hp h
    rcases nx_lt (told := t2) (Ld := Ld) (tk := tk) (p := p) with q | ⟨q1, q2⟩
    · simp only [sa, h1, q, if_true]
    · have h3 := hL (4 * p + nx t2 Ld tk p) (by omega)
      simp only [sa, h1, sa_cong hL h f (n + 1) (Ld (4 * p + nx t2 Ld tk p)) (tkA tk (4 * p + nx t2 Ld tk p)) (by omega)]
theorem pl_cong {t1 t2 : Nat → Bool} {Ld : Nat → Nat} {arr : Nat → Bool} (hL : ∀ w, w < 32 → Ld w ≤ 8) (h : ∀ w, w < 32 → t1 w = t2 w) : ∀ f p tk, p < 8 → pl t1 Ld arr f p tk = pl t2 Ld arr f p tk
  | 0, _, _, _ => rfl
  | f + 1, p, tk, hp => by
    have h1 := nx_cong (Ld := Ld) (tk := tk) hp h
    rcases nx_lt (told := t2) (Ld := Ld) (tk := tk) (p := p) with q | ⟨q1, q2⟩
    · simp only [pl, h1, q, if_true]
    · have h3 := hL (4 * p + nx t2 Ld tk p) (by omega)
      simp only [pl, h1, pl_cong hL h f (Ld (4 * p + nx t2 Ld tk p)) (tkA tk (4 * p + nx t2 Ld tk p)) (by omega)]
theorem engF_in (sh ct : Nat → Int32) (w t : Nat) : ∀ k j, j < k → engF sh ct w t k (w * 5 + j) = sh (dg t j)
  | 0, _, h => absurd h (Nat.not_lt_zero _)
  | k + 1, j, h => by
    show upd (engF sh ct w t k) (w * 5 + k) (sh (dg t k)) (w * 5 + j) = _
    by_cases e : j = k
    · subst e; exact pk_us
    · rw [pk_un (by omega)]; exact engF_in sh ct w t k j (by omega)
theorem engF_out (sh ct : Nat → Int32) (w t : Nat) {i : Nat} : ∀ k, (∀ j, j < k → i ≠ w * 5 + j) → engF sh ct w t k i = ct i
  | 0, _ => rfl
  | k + 1, h => by
    show upd (engF sh ct w t k) (w * 5 + k) (sh (dg t k)) i = _
    rw [pk_un (h k (by omega))]; exact engF_out sh ct w t k (fun j hj => h j (by omega))
theorem engR_in (sh ct : Nat → Int32) (w t K : Nat) : ∀ k j, j < k → engR sh ct w t K k (5 * w + j) = sh (dg t (K - 1 - j))
  | 0, _, h => absurd h (Nat.not_lt_zero _)
  | k + 1, j, h => by
    show upd (engR sh ct w t K k) (5 * w + k) (sh (dg t (K - 1 - k))) (5 * w + j) = _
    by_cases e : j = k
    · subst e; exact pk_us
    · rw [pk_un (by omega)]; exact engR_in sh ct w t K k j (by omega)
theorem engR_out (sh ct : Nat → Int32) (w t K : Nat) {i : Nat} : ∀ k, (∀ j, j < k → i ≠ 5 * w + j) → engR sh ct w t K k i = ct i
  | 0, _ => rfl
  | k + 1, h => by
    show upd (engR sh ct w t K k) (5 * w + k) (sh (dg t (K - 1 - k))) i = _
    rw [pk_un (h k (by omega))]; exact engR_out sh ct w t K k (fun j hj => h j (by omega))
theorem eng_rel {K K2 : Nat → Nat} {sh ct ct2 : Nat → Int32} {w t k : Nat} (hsh : ∀ g, g < 8 → S25 (sh g)) (hc : ctRel K ct ct2) (hK2 : ∀ v, K2 v = if v = w then k else K v) (hk : k ≤ 5) (hK : ∀ w, w < 32 → K w ≤ 5) : ctRel K2 (engF sh ct w t k) (engR sh ct2 w t k k) := by
  intro v hv j hj
  rw [hK2 v] at hj ⊢
  by_cases e : v = w
  · subst e
    rw [if_pos rfl] at hj ⊢
    rw [engF_in sh ct v t k j hj, engR_in sh ct2 v t k k _ (by omega), show k - 1 - (k - 1 - j) = j by omega]
    exact ⟨hsh _ (dg_lt _ _), rfl⟩
  · rw [if_neg e] at hj ⊢
    have h5 := hK v hv
    rw [engF_out sh ct w t k (fun i hi => by omega), engR_out sh ct2 w t k k (fun i hi => by omega)]
    exact hc v hv j hj
theorem cd3_cong {a b c c2 : Bool} (h : b = true → c = c2) : cd3 a b c = cd3 a b c2 := by
  cases a
  · rfl
  · cases b
    · rfl
    · rw [h rfl]
theorem rm_eq {K T T2 : Nat → Nat} {sh sp ct ct2 : Nat → Int32} {co : Int64} (hsh : ∀ g, g < 8 → S25 (sh g)) (hK : ∀ w, w < 32 → K w ≤ 5) (hT : ∀ w, w < 32 → K w ≠ 0 → T2 w = T w) (hc : ctRel K ct ct2) :
    ∀ i, i ≤ 32 → ∃ c c2 o n, rmF sh (pltC sh sp T K) T K ct co i = (c, o, n) ∧ rmG sh (pltR sh sp T2 K) T2 K ct2 co i = (c2, o) ∧ n = cnB (fun w => anyB (oldR sh ct2 w (T2 w) (K w)) (K w)) i ∧ ctRel K c c2 ∧ ∀ w, i ≤ w → ∀ j, j < 5 → c (w * 5 + j) = ct (w * 5 + j) ∧ c2 (5 * w + j) = ct2 (5 * w + j)
  | 0, _ => ⟨ct, ct2, co, nI 0, rfl, rfl, rfl, hc, fun _ _ _ _ => ⟨rfl, rfl⟩⟩
  | i + 1, h => by
    obtain ⟨c, c2, o, n, h1, h2, h3, h4, h5⟩ := rm_eq (sp := sp) (co := co) hsh hK hT hc i (by omega)
    have hki := hK i (by omega)
    have e1 : anyB (oldC sh c i (T i)) (K i) = anyB (oldR sh c2 i (T2 i) (K i)) (K i) := by
      by_cases hz : K i = 0
      · rw [hz]; rfl
      · rw [hT i (by omega) hz]
        exact old_eq (h4 i (by omega))
    have e2 : anyB (oldR sh c2 i (T2 i) (K i)) (K i) = anyB (oldR sh ct2 i (T2 i) (K i)) (K i) := by
      refine anyB_cong fun j hj => ?_
      show decide (c2 (5 * i + j) ≠ _) = decide (ct2 (5 * i + j) ≠ _)
      rw [(h5 i (Nat.le_refl _) j (by omega)).2]
    cases hb : anyB (oldC sh c i (T i)) (K i) with
    | true =>
      have hb2 : anyB (oldR sh c2 i (T2 i) (K i)) (K i) = true := by rw [← e1]; exact hb
      have hz : K i ≠ 0 := by
        intro q
        rw [q] at hb
        cases hb
      have hTi := hT i (by omega) hz
      refine ⟨_, engR sh c2 i (T2 i) (K i) (K i), _, _, rmF_t h1 hb, ?_, ?_, ?_, ?_⟩
      · rw [rmG_t h2 hb2]
        show (_, o + (plF (pwR (wdR sh) sp (T2 i) (K i) (K i))).toInt64) = (_, o + (plF (pwC (wdS sh) sp (T i) (K i))).toInt64)
        rw [hTi, wd_eq, pw_eq _ _ _ hki]
      · rw [cnB, h3, ← e2, hb2]; rfl
      · rw [hTi]
        exact eng_rel hsh h4 (fun v => by split <;> simp_all) hki hK
      · intro w hw j hj
        rw [engF_out sh c i (T i) _ (fun q hq => by omega), engR_out sh c2 i (T2 i) _ _ (fun q hq => by omega)]
        exact h5 w (by omega) j hj
    | false =>
      have hb2 : anyB (oldR sh c2 i (T2 i) (K i)) (K i) = false := by rw [← e1]; exact hb
      refine ⟨c, c2, o, n, rmF_f h1 hb, rmG_f h2 hb2, ?_, h4, fun w hw j hj => h5 w (by omega) j hj⟩
      rw [cnB, h3, ← e2, hb2]
      show _ = _ + nI 0
      rw [nI_0, Int32.add_zero]
theorem bad_eq {K T T2 : Nat → Nat} {sh sp ct ct2 : Nat → Int32} (hK : ∀ w, w < 32 → K w ≤ 5) (hT : ∀ w, w < 32 → K w ≠ 0 → T2 w = T w) (hc : ctRel K ct ct2) : anyB (badC sh sp ct T K) 32 = anyB (badR sh sp ct2 T2 K) 32 := by
  refine anyB_cong fun w hw => ?_
  show (anyB (oldC sh ct w (T w)) (K w) && decide (plF (pwC (wdS sh) sp (T w) (K w)) = -1)) = (anyB (oldR sh ct2 w (T2 w) (K w)) (K w) && decide (plF (pwR (wdR sh) sp (T2 w) (K w) (K w)) = -1))
  by_cases hz : K w = 0
  · rw [hz]; rfl
  · rw [hT w hw hz, old_eq (hc w hw), wd_eq, pw_eq _ _ _ (hK w hw)]
