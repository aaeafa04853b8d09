/-! own rows of this claim: what the law asks of the class's pure functions -/
def lnK (a b c d : Nat) : Bool := decide (dist a c = 0 ∨ dist b d = 0 ∨ dist a c = dist b d)
def stk (bk s c : Int32) : Int32 := if bk = 0 then s &&& (c ^^^ (-1)) else s ||| c
abbrev lcN (a b c d : Nat) : Int32 := lcF (nI a) (nI b) (dr a c) (dr b d) (lnN a b c d)
theorem S25_of {x : Int32} (h : x.toBitVec.toNat < 33554432) : S25 x := by
  obtain ⟨n, hn, rfl⟩ := wb_of32 x
  rw [pk_tn hn] at h
  exact ⟨n, by omega, rfl⟩
theorem lc_25 : ∀ a, a < 5 → ∀ b, b < 5 → ∀ c, c < 5 → ∀ d, d < 5 → lnK a b c d = true → (lcF (nI a) (nI b) (dr a c) (dr b d) (lnN a b c d)).toBitVec.toNat < 33554432 := by decide +kernel
theorem S25_lcN {a b c d : Nat} (ha : a < 5) (hb : b < 5) (hc : c < 5) (hd : d < 5) (h : lnK a b c d = true) : S25 (lcN a b c d) := S25_of (lc_25 a ha b hb c hc d hd h)
theorem S25_stk {bk s c : Int32} (h : S25 s) (hc : S25 c) : S25 (stk bk s c) := by
  unfold stk
  split
  · exact S25_and _ h
  · exact S25_or h hc
theorem lc_5 : ∀ a, a < 5 → ∀ b, b < 5 → ∀ c, c < 5 → ∀ d, d < 5 → lnK a b c d = true → pcn (lcF (nI a) (nI b) (dr a c) (dr b d) (lnN a b c d)).toBitVec.toNat 25 ≤ 5 := by decide +kernel
theorem bt_stk (bk x c : Int32) {i : Nat} (hi : i < 32) (h : bt (x ^^^ stk bk x c) i = true) : bt c i = true := by
  rw [b_xor] at h
  unfold stk at h
  split at h
  · rw [b_and, b_xor, b_m1 i hi] at h
    revert h
    cases bt x i <;> cases bt c i <;> simp
  · rw [b_or] at h
    revert h
    cases bt x i <;> cases bt c i <;> simp
theorem stk_stk (bk s c : Int32) : stk bk (stk bk s c) c = stk bk s c := by
  refine b_ext fun i hi => ?_
  unfold stk
  split
  · simp only [b_and, b_xor, b_m1 i hi]
    cases bt s i <;> cases bt c i <;> rfl
  · simp only [b_or]
    cases bt s i <;> cases bt c i <;> rfl
theorem df_self (x : Int32) : df x x = nI 0 := by
  have h : x ^^^ x = 0 := b_ext fun i _ => by rw [b_xor, b_0, Bool.xor_self]
  unfold df
  rw [h]
  decide +kernel
theorem df_comm (x y : Int32) : df x y = df y x := by
  have h : x ^^^ y = y ^^^ x := b_ext fun i _ => by rw [b_xor, b_xor, Bool.xor_comm]
  unfold df
  rw [h]
theorem pcn_le (n : Nat) : ∀ k, pcn n k ≤ k
  | 0 => Nat.le_refl _
  | k + 1 => by
    have h := pcn_le n k
    have h2 : n / 2 ^ k % 2 < 2 := Nat.mod_lt _ (by decide)
    show pcn n k + n / 2 ^ k % 2 ≤ k + 1
    omega
theorem pcn_mono {n m : Nat} : ∀ k, (∀ i, i < k → n / 2 ^ i % 2 ≤ m / 2 ^ i % 2) → pcn n k ≤ pcn m k
  | 0, _ => Nat.le_refl _
  | k + 1, h => by
    have h1 := pcn_mono k (fun i hi => h i (by omega))
    have h2 := h k (by omega)
    show pcn n k + n / 2 ^ k % 2 ≤ pcn m k + m / 2 ^ k % 2
    omega
theorem bt_nI {n : Nat} (hn : n < 2 ^ 32) (i : Nat) : bt (nI n) i = n.testBit i := by
  unfold bt
  rw [show (nI n).toBitVec = BitVec.ofNat 32 n from rfl, BitVec.getLsbD_ofNat]
  by_cases h : i < 32
  · simp [h]
  · rw [Nat.testBit_lt_two_pow (Nat.lt_of_lt_of_le hn (Nat.pow_le_pow_right (by decide) (by omega)))]
    simp
theorem df_rg {x y : Int32} (hx : S25 x) (hy : S25 y) : ∃ k, k ≤ 25 ∧ df x y = nI k := by
  obtain ⟨n, hn, h⟩ := S25_xor hx hy
  unfold df
  rw [h, bsum_nI (by omega) 25 (Nat.le_refl _)]
  exact ⟨_, pcn_le n 25, rfl⟩
theorem df_stk {a b c d : Nat} (ha : a < 5) (hb : b < 5) (hc : c < 5) (hd : d < 5) (h : lnK a b c d = true) {x bk : Int32} (hx : S25 x) : ∃ k, k ≤ 5 ∧ df x (stk bk x (lcN a b c d)) = nI k := by
  have h5 := lc_5 a ha b hb c hc d hd h
  have hs := S25_lcN ha hb hc hd h
  change pcn (lcN a b c d).toBitVec.toNat 25 ≤ 5 at h5
  generalize lcN a b c d = z at h5 hs
  obtain ⟨m, hm, rfl⟩ := hs
  rw [pk_tn (show m < 2 ^ 32 by omega)] at h5
  obtain ⟨n, hn, hz⟩ := S25_xor hx (S25_stk (bk := bk) hx ⟨m, hm, rfl⟩)
  unfold df
  rw [hz, bsum_nI (by omega) 25 (Nat.le_refl _)]
  refine ⟨_, Nat.le_trans (pcn_mono 25 fun i hi => ?_) h5, rfl⟩
  have h6 : n.testBit i = true → m.testBit i = true := fun q => by
    rw [← bt_nI (by omega)] at q ⊢
    rw [← hz] at q
    exact bt_stk bk x (nI m) (by omega) q
  rw [← Nat.toNat_testBit, ← Nat.toNat_testBit]
  cases hA : n.testBit i with
  | false => exact Nat.zero_le _
  | true => rw [h6 hA]; exact Nat.le_refl _
theorem wd_rg (h : Nat → Bool) : ∃ k, 1 ≤ k ∧ k ≤ 5 ∧ wdF h = nI k := by
  have key : ∀ a b c d e : Bool, ∃ k, 1 ≤ k ∧ k ≤ 5 ∧ wdF (fun i => if i = 0 then a else if i = 1 then b else if i = 2 then c else if i = 3 then d else e) = nI k := by
    intro a b c d e
    cases a <;> cases b <;> cases c <;> cases d <;> cases e <;> first | exact ⟨1, by decide, by decide, by decide⟩ | exact ⟨2, by decide, by decide, by decide⟩ | exact ⟨3, by decide, by decide, by decide⟩ | exact ⟨4, by decide, by decide, by decide⟩ | exact ⟨5, by decide, by decide, by decide⟩
  obtain ⟨k, h1, h2, h3⟩ := key (h 0) (h 1) (h 2) (h 3) (h 4)
  refine ⟨k, h1, h2, h3 ▸ ?_⟩
  have e : ∀ f : Nat → Bool, (∀ j, j < 5 → h j = f j) → ∀ j, j ≤ 5 → wfF h j = wfF f j := by
    intro f hf j
    induction j with
    | zero => intro _; rfl
    | succ j ih =>
      intro hj
      rw [wfF, wfF, ih (by omega), hf j (by omega)]
  unfold wdF
  rw [e (fun i => if i = 0 then h 0 else if i = 1 then h 1 else if i = 2 then h 2 else if i = 3 then h 3 else h 4) (fun j hj => by rcases (show j = 0 ∨ j = 1 ∨ j = 2 ∨ j = 3 ∨ j = 4 by omega) with rfl | rfl | rfl | rfl | rfl <;> rfl) 5 (Nat.le_refl _)]
def engF (sh ct : Nat → Int32) (w t : Nat) : Nat → Nat → Int32
  | 0 => ct
  | j + 1 => upd (engF sh ct w t j) (w * 5 + j) (sh (dg t j))
theorem eng_in {sh ct : Nat → Int32} {w t : Nat} : ∀ {k j : Nat}, j < k → engF sh ct w t k (w * 5 + j) = sh (dg t j)
  | k + 1, j, h => by
    show upd (engF sh ct w t k) (w * 5 + k) (sh (dg t k)) (w * 5 + j) = sh (dg t j)
    by_cases e : j = k
    · subst e; exact pk_us
    · rw [pk_un (by omega)]
      exact eng_in (by omega)
theorem eng_out {sh ct : Nat → Int32} {w t x : Nat} : ∀ {k : Nat}, (∀ j, j < k → x ≠ w * 5 + j) → engF sh ct w t k x = ct x
  | 0, _ => rfl
  | k + 1, h => by
    show upd (engF sh ct w t k) (w * 5 + k) (sh (dg t k)) x = ct x
    rw [pk_un (h k (by omega))]
    exact eng_out (fun j hj => h j (by omega))
theorem any_no {p : Nat → Bool} {n : Nat} (h : ∀ i, i < n → p i = false) : anyB p n = false := by
  refine ts_nt fun q => ?_
  obtain ⟨i, h1, h2⟩ := anyB_iff.mp q
  rw [h i h1] at h2
  cases h2
theorem old_eng {sh ct : Nat → Int32} {w t k : Nat} : anyB (oldC sh (engF sh ct w t k) w t) k = false := any_no fun j hj => decide_eq_false (fun q => q (eng_in hj))
theorem sa_pl {told : Nat → Bool} {Ld : Nat → Nat} {arr : Nat → Bool} : ∀ (f n p : Nat) (tk : Nat → Bool), sa told Ld arr f n p tk = -1 ∨ ∃ j, j < f ∧ sa told Ld arr f n p tk = nI (n + j) ∧ ∀ m, j ≤ m → pl told Ld arr m p tk = pl told Ld arr j p tk
  | 0, _, _, _ => Or.inl rfl
  | f + 1, n, p, tk => by
    cases ha : arr p with
    | true =>
      refine Or.inr ⟨0, by omega, sa_a ha, fun m _ => ?_⟩
      cases m with
      | zero => rfl
      | succ m => exact pl_a ha
    | false =>
      by_cases h4 : nx told Ld tk p = 4
      · exact Or.inl (sa_l ha h4)
      · have he : nx told Ld tk p < 4 := (nx_lt.resolve_left h4).1
        rcases sa_pl f (n + 1) (Ld (4 * p + nx told Ld tk p)) (tkA tk (4 * p + nx told Ld tk p)) with h | ⟨j, h1, h2, h3⟩
        · exact Or.inl ((sa_s ha rfl he).trans h)
        · refine Or.inr ⟨j + 1, by omega, (sa_s ha rfl he).trans (h2.trans (congrArg nI (by omega))), fun m hm => ?_⟩
          obtain ⟨m, rfl⟩ : ∃ m', m = m' + 1 := ⟨m - 1, by omega⟩
          rw [pl_s ha rfl he, pl_s ha rfl he]
          exact h3 m (by omega)
theorem pl_lt8 {told : Nat → Bool} {Ld : Nat → Nat} {arr : Nat → Bool} (hL : ∀ w, w < 32 → Ld w ≤ 8) : ∀ (f p : Nat) (tk : Nat → Bool), p < 8 → pl told Ld arr f p tk < 8
  | 0, _, _, h => h
  | f + 1, p, tk, h => by
    cases ha : arr p with
    | true => rw [pl_a ha]; exact h
    | false =>
      by_cases h4 : nx told Ld tk p = 4
      · rw [pl_l h4]; exact h
      · have he := nx_lt.resolve_left h4
        rw [pl_s ha rfl he.1]
        refine pl_lt8 hL f _ _ ?_
        have h5 := hL (4 * p + nx told Ld tk p) (by omega)
        have h6 := he.2
        omega
def kpOK (sf : Nat → Nat → Nat → Int32) (kg : Int32) (ks : Nat → Int32) : Prop := ∀ gk gt : Nat, 1 ≤ gk → gk ≤ 5 → gt < 8 ^ gk → kg = nI (32768 * gk + gt) → ∀ p, p < 8 → ks p = -2 ∨ ks p = sf gk gt p
theorem kp_0 (sf : Nat → Nat → Nat → Int32) (ks : Nat → Int32) : kpOK sf (nI 0) ks := by
  intro gk gt h1 h2 h3 h4
  have h5 := p8_le h2
  have h6 := nI_inj (by omega) (by omega) h4
  omega
theorem kp_inj {k t gk gt : Nat} (hk : k ≤ 5) (ht : t < 8 ^ k) (h2 : gk ≤ 5) (h3 : gt < 8 ^ gk) (h : nI (32768 * k + t) = nI (32768 * gk + gt)) : gk = k ∧ gt = t := by
  have h5 := p8_le h2
  have h6 := p8_le hk
  have h7 := nI_inj (by omega) (by omega) h
  omega
theorem kp_upd {sf : Nat → Nat → Nat → Int32} {kg : Int32} {ks : Nat → Int32} {k t p : Nat} (hk : k ≤ 5) (ht : t < 8 ^ k) (hg : kg = nI (32768 * k + t)) (h : ∀ v, v < 8 → v ≠ p → ks v = -2 ∨ ks v = sf k t v) : kpOK sf kg (upd ks p (sf k t p)) := by
  intro gk gt h1 h2 h3 h4 v hv
  rw [hg] at h4
  obtain ⟨rfl, rfl⟩ := kp_inj hk ht h2 h3 h4
  by_cases e : v = p
  · subst e
    exact Or.inr pk_us
  · rw [pk_un e]
    exact h v hv e
def lowN (v : Int32) (n : Nat) : Nat := v.toBitVec.toNat % 2147483648 % n
theorem lowN_lt (v : Int32) {n : Nat} (h : 0 < n) : lowN v n < n := Nat.mod_lt _ h
theorem low_and (v : Int32) : v &&& 2147483647 = nI (v.toBitVec.toNat % 2147483648) := by
  obtain ⟨n, hn, rfl⟩ := wb_of32 v
  rw [pk_tn hn]
  exact fa_mask n 31
def cellF (L : Nat) (xs : Nat → Int32) (k : Nat) : Int32 := if k < L then xs k else (nI 7919 * nI (k + 3)) * nI (k + 11)
theorem pl_m1 {x : Int32} (h : x ≤ nI 30) : plF x ≠ -1 := by
  unfold plF
  rw [if_neg (le_nlt h)]
  split
  · split <;> decide
  · decide
section KCALL0
variable {p : Program} {l : Launch} {e : Env} {R : Room} {s : State} {m : MethodId} {args : Array Value} {below : List Frame} {meth : Method} {c : Code} {H : Heap} {locs : List Loc} {cells slots : Nat} {Q : State → Prop}
variable {y : MethodName} {bytes cc : ByteArray} {maxL nL n index pc : Nat} {ret : Option FieldType} {ws : List Cond} {rm : Room} {Ts : List Cond} {own C : String} {b : Addr} {As rest st0 : List Value} {ls : Array Slot} {B : State → Prop}
theorem k_callS0 (S : CallFix p m c cc nL s args Ts own) (hM : k_M l y ws rm As B none) (cw : CallB R s args own index y bytes maxL ret ws rm 0 0 n ∧ (Cond.static y).before args s = true)
    (hbl : k_bl B) (hB : ∀ U : State, U.heap = H → s.WarmedH U.vm → B U) (hn : As.length = n) (hsize : ls.size = nL) (hst : st0 = As.reverse ++ rest) (hW : (rest.map fun v => v.category).sum ≤ 8) (hdg : decode cc pc = .ok (.invokestatic index, 3)) (hf : cells ≤ R.cells ∧ slots ≤ R.slots)
    (kk : W p l e R s m args below meth c H locs cells slots Q (F0 m (pc + 3) ls rest)) : W p l e R s m args below meth c H locs cells slots Q (F0 m pc ls st0) := k_callS S hM cw hbl hB hn hsize hst hW hdg hf kk
theorem k_vret (hx : p.tables.exec = Jvm.exec) (hb : c.code = cc) (hr : meth.sig.returnType = none) (hlocks : meth.locks = false) (hdg : decode cc pc = .ok (.return_, 1)) : W p l e R s m args below meth c s.heap [] 0 0 (MQ below (k_Q none) args s 0 0 k_N) (F0 m pc ls []) := W.vret hx hb hr (fun t ht hW => ⟨rfl, ht⟩) (fun q hq => nomatch hq) hdg hlocks
theorem n_lcmpEq (hexec : p.tables.exec = Jvm.exec) (hb : c.code = cc) {x z : Int64} (h : x = z) (hdg : decode cc pc = .ok (.lcmp, 1)) (k : W p l e R s m args below meth c H locs cells slots Q (F0 m (pc + 1) ls (.int (nI 0) :: rest))) : W p l e R s m args below meth c H locs cells slots Q (F0 m pc ls (.long z :: .long x :: rest)) := by
  subst h
  intro T hT X
  obtain ⟨t, a, b⟩ := k T hT X
  refine ⟨t, ?_, b⟩
  jvm_step X.here [X.here.top, hexec, hb, hdg]
  exact a
end KCALL0
