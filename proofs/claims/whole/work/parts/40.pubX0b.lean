abbrev pltC (sh sp : Nat → Int32) (T K : Nat → Nat) (w : Nat) : Int32 := plF (pwC (wdS sh) sp (T w) (K w))
abbrev badC (sh sp ct : Nat → Int32) (T K : Nat → Nat) : Nat → Bool := fun w => anyB (oldC sh ct w (T w)) (K w) && decide (pltC sh sp T K w = -1)
def rmF (sh : Nat → Int32) (pw : Nat → Int32) (T K : Nat → Nat) (ct0 : Nat → Int32) (co0 : Int64) : Nat → (Nat → Int32) × Int64 × Int32
  | 0 => (ct0, co0, nI 0)
  | i + 1 => if anyB (oldC sh (rmF sh pw T K ct0 co0 i).1 i (T i)) (K i) = true then (engF sh (rmF sh pw T K ct0 co0 i).1 i (T i) (K i), (rmF sh pw T K ct0 co0 i).2.1 + (pw i).toInt64, (rmF sh pw T K ct0 co0 i).2.2 + nI 1) else rmF sh pw T K ct0 co0 i
theorem rmF_t {sh pw : Nat → Int32} {T K : Nat → Nat} {ct0 : Nat → Int32} {co0 : Int64} {i : Nat} {c : Nat → Int32} {o : Int64} {n : Int32} (h : rmF sh pw T K ct0 co0 i = (c, o, n)) (h2 : anyB (oldC sh c i (T i)) (K i) = true) : rmF sh pw T K ct0 co0 (i + 1) = (engF sh c i (T i) (K i), o + (pw i).toInt64, n + nI 1) := by
  rw [rmF, h]
  exact if_pos h2
theorem rmF_f {sh pw : Nat → Int32} {T K : Nat → Nat} {ct0 : Nat → Int32} {co0 : Int64} {i : Nat} {c : Nat → Int32} {o : Int64} {n : Int32} (h : rmF sh pw T K ct0 co0 i = (c, o, n)) (h2 : anyB (oldC sh c i (T i)) (K i) = false) : rmF sh pw T K ct0 co0 (i + 1) = (c, o, n) := by
  rw [rmF, h]
  exact if_neg (by rw [h2]; decide)
def kpOK (sf : Nat → Nat → Nat → Int32) (kg : Int32) (ks : Nat → Int32) : Prop := ∀ gk gt : Nat, 1 ≤ gk → gk ≤ 5 → gt < 8 ^ gk → kg = nI (32768 * gk + gt) → ∀ p, p < 8 → ks p = -2 ∨ ks p = sf gk gt p
theorem kp_0 (sf : Nat → Nat → Nat → Int32) (ks : Nat → Int32) : kpOK sf (nI 0) ks := by
  intro gk gt h1 h2 h3 h4
  have h5 := p8_le h2
  have h6 := nI_inj (by omega) (by omega) h4
  omega
theorem kp_inj {k t gk gt : Nat} (hk : k ≤ 5) (ht : t < 8 ^ k) (h2 : gk ≤ 5) (h3 : gt < 8 ^ gk) (h : nI (32768 * k + t) = nI (32768 * gk + gt)) : gk = k ∧ gt = t := by
  have h5 := p8_le h2
  have h6 := p8_le hk
  have h7 := nI_inj (by omega) (by omega) h
  omega
theorem kp_upd {sf : Nat → Nat → Nat → Int32} {kg : Int32} {ks : Nat → Int32} {k t p : Nat} (hk : k ≤ 5) (ht : t < 8 ^ k) (hg : kg = nI (32768 * k + t)) (h : ∀ v, v < 8 → v ≠ p → ks v = -2 ∨ ks v = sf k t v) : kpOK sf kg (upd ks p (sf k t p)) := by
  intro gk gt h1 h2 h3 h4 v hv
  rw [hg] at h4
  obtain ⟨rfl, rfl⟩ := kp_inj hk ht h2 h3 h4
  by_cases e : v = p
  · subst e
    exact Or.inr pk_us
  · rw [pk_un e]
    exact h v hv e
theorem st_t {d : Int32} (h : ¬ d < 0) (h2 : d ≤ nI 30) : inB d 31 = true := by
  rw [← rg_in d (n := 30) (by decide)]
  exact decide_eq_true ⟨by rw [nI_0]; exact h, le_nlt h2⟩
theorem st_f {d : Int32} (h2 : ¬ d ≤ nI 30) : inB d 31 = false := by
  rw [← rg_in d (n := 30) (by decide)]
  exact decide_eq_false (fun q => q.2 (fa_of_nle h2))
set_option maxHeartbeats 4000000 in
set_option maxRecDepth 100000 in
theorem c_X0_requirePlatesForOutdated (l : Launch) (hst : l.stackTraces = false) (D : va_G) (cI : ClassId) (q : Nat → Nat) (sh sp ld nm tx ds ct : Nat → Int32) (co : Int64) (kg : Int32) (ks : Nat → Int32) (T K : Nat → Nat) (hG : ∀ w, w < 32 → T w < 32768 ∧ K w ≤ 5 ∧ tx w = nI (32768 * K w + T w) ∧ ∀ j, j < K w → S25 (ct (w * 5 + j))) : vx_Met l yX0_requirePlatesForOutdated wsX0_requirePlatesForOutdated ({ frames := 6, cells := 1, slots := 6, locals := 141 } : Room) (k_P [.ref (q 0)] (fun U => k_B D (wx cI q sh sp ld nm tx ds ct co kg ks) [(cI, .int)] U ∧ k_ex U)) (k_CQ none (anyB (badC sh sp ct T K) 32 = false)) (k_XC (fun E => E = k_IS ∧ anyB (badC sh sp ct T K) 32 = true)) 1 6 k_N := by
  refine k_headX (cc := cX0_requirePlatesForOutdated) (maxL := 2) (ret := none) [(0, .ref (q 0))] (by decide) rfl (Nat.le_of_ble_eq_true rfl) rfl ?_
  intro p e s m below meth c ls hx hb hr hml hown hts hlocks ht hB hl
  have hown : s.vm.findClass RX0 = some m.cls := hown
  obtain ⟨⟨hP, hK⟩, hex⟩ := hB
  have hin : ∀ w ∈ wsX00, w ∈ wsX0_requirePlatesForOutdated := fun w h => List.mem_cons_of_mem _ (List.mem_append_left _ (List.mem_append_right _ h))
  refine lv_iconst (v := nI 0) hx hb dX0_requirePlatesForOutdated_0 (by decide) ?_
  refine lv_istore_n (lv' := [(1, .int (nI 0)), (0, .ref (q 0))]) hx hb dX0_requirePlatesForOutdated_1 rfl hl (by decide) rfl (fun ls hl => ?_)
  refine W.loop (fun i ls => (anyB (badC sh sp ct T K) i = false) ∧ lv_has ls 2 [(0, .ref (q 0)), (1, .int (nI i))]) (32) (0) (by omega) ⟨rfl, lv_sub hl [1, 0] rfl⟩ ?_
  intro i ls hi_2 hI_2 ih_2
  obtain ⟨hf0_2, hl⟩ := hI_2
  refine lv_iload_n hx hb dX0_requirePlatesForOutdated_2 rfl (lv_at hl 1 rfl) ?_
  refine lv_bipush (v := nI 32) hx hb dX0_requirePlatesForOutdated_3 (by decide) ?_
  refine n_icmp_ge (tgt := 46) hx hb dX0_requirePlatesForOutdated_5 (by decide) (by omega) (by omega) (fun c_5 => ?_) (fun c_5 => ?_)
  · exact k_vretC hx hb hr hlocks dX0_requirePlatesForOutdated_46 (by rw [← show i = 32 from by omega]; exact hf0_2) (Nat.le_of_ble_eq_true rfl) (Nat.le_of_ble_eq_true rfl)
  · refine lv_aload_n hx hb dX0_requirePlatesForOutdated_8 rfl (lv_at hl 0 rfl) ?_
    refine lv_iload_n hx hb dX0_requirePlatesForOutdated_9 rfl (lv_at hl 1 rfl) ?_
    refine k_callVi (As := [.int (nI i)]) (rest := []) ⟨hx, hb, hml, hown, hts⟩ (c_X0_isOutdated l D cI q sh sp ld nm tx ds ct co kg ks i (T i) (K i) (by omega) (hG _ (by omega)).1 (hG _ (by omega)).2.1 (hG _ (by omega)).2.2.1) (cwV 1 hts gX0_requirePlatesForOutdated_X0_isOutdated rfl rfl rfl (by decide +kernel) ⟨Nat.le_of_ble_eq_true rfl, Nat.le_of_ble_eq_true rfl⟩) k_B_bl (k_B_of hP hK) (va_recv hK hP (ci := 0) (q0 := 0) rfl rfl) rfl hl.1 rfl (Nat.le_of_ble_eq_true rfl) dX0_requirePlatesForOutdated_10 ⟨Nat.zero_le _, Nat.zero_le _⟩ ?_
    refine b_if_eq (tgt := 40) hx hb dX0_requirePlatesForOutdated_13 (by decide) (fun c_13 => ?_) (fun c_13 => ?_)
    · refine lv_iinc (v := nI (i + 1)) (lv' := [(1, .int (nI (i + 1))), (0, .ref (q 0))]) hx hb dX0_requirePlatesForOutdated_40 hl (k := 1) rfl (nI_inc _) (by decide) rfl (fun ls hl => ?_)
      refine lv_goto (tgt := 2) hx hb dX0_requirePlatesForOutdated_43 (by decide) ?_
      exact ih_2 _ (by omega) ⟨by rw [anyB, hf0_2]; simp [c_13], lv_sub hl [1, 0] rfl⟩
    · refine lv_aload_n hx hb dX0_requirePlatesForOutdated_16 rfl (lv_at hl 0 rfl) ?_
      refine lv_aload_n hx hb dX0_requirePlatesForOutdated_17 rfl (lv_at hl 0 rfl) ?_
      refine va_get (D := D) (ci := 0) (v := .ref (q 5)) (C := RX0) (T := TX0) (N := 10) hx hb hts hin hown hK hP 0 rfl rfl 4 (by decide) (hts (.fieldLink RX0 22 "SignRail" "signTexts" "[I") (by decide +kernel)) (fun _ h9 => h9) rfl dX0_requirePlatesForOutdated_18 ?_
      refine lv_iload_n hx hb dX0_requirePlatesForOutdated_21 rfl (lv_at hl 1 rfl) ?_
      refine n_iald hx hb hK hP 5 0 rfl rfl (k := i) (by omega) (Nat.le_of_ble_eq_true rfl) dX0_requirePlatesForOutdated_22 ?_
      refine lv_as (y := nI (32768 * (K i) + (T i))) ((hG _ (by omega)).2.2.1) ?_
      refine k_callVi (As := [.int (nI (32768 * (K i) + (T i)))]) (rest := []) ⟨hx, hb, hml, hown, hts⟩ (c_X0_plateFor l D cI q sh sp ld nm tx ds ct co kg ks (T i) (K i) (hG _ (by omega)).1 (hG _ (by omega)).2.1) (cwV 1 hts gX0_requirePlatesForOutdated_X0_plateFor rfl rfl rfl (by decide +kernel) ⟨Nat.le_of_ble_eq_true rfl, Nat.le_of_ble_eq_true rfl⟩) k_B_bl (k_B_of hP hK) (va_recv hK hP (ci := 0) (q0 := 0) rfl rfl) rfl hl.1 rfl (Nat.le_of_ble_eq_true rfl) dX0_requirePlatesForOutdated_23 ⟨Nat.zero_le _, Nat.zero_le _⟩ ?_
      refine lv_iconst (v := (-1)) hx hb dX0_requirePlatesForOutdated_26 (by decide) ?_
      refine lv_icmp_ne (tgt := 40) hx hb dX0_requirePlatesForOutdated_27 (by decide) (fun c_27 => ?_) (fun c_27 => ?_)
      · refine lv_iinc (v := nI (i + 1)) (lv' := [(1, .int (nI (i + 1))), (0, .ref (q 0))]) hx hb dX0_requirePlatesForOutdated_40 hl (k := 1) rfl (nI_inc _) (by decide) rfl (fun ls hl => ?_)
        refine lv_goto (tgt := 2) hx hb dX0_requirePlatesForOutdated_43 (by decide) ?_
        exact ih_2 _ (by omega) ⟨by rw [anyB, hf0_2]; simp [c_27], lv_sub hl [1, 0] rfl⟩
      · exact k_throw (cls := k_IS) (text := "too wide for any plate") (ik := 105) (is := 107) (ic := 109) hx hb hst hown (by decide) (hts (.classLink RX0 105 k_IS) (by decide +kernel)) (hts (.initialized k_IS) (by decide +kernel)) hex (by decide) (fun w h => hts w (List.mem_cons_of_mem _ (List.mem_append_right _ h))) k_ngIS k_gdIS (hl.1.trans hml.symm) dX0_requirePlatesForOutdated_30 dX0_requirePlatesForOutdated_33 dX0_requirePlatesForOutdated_34 dX0_requirePlatesForOutdated_36 dX0_requirePlatesForOutdated_39 ht (Nat.le_of_ble_eq_true rfl) (Nat.le_of_ble_eq_true rfl) (Nat.le_of_ble_eq_true rfl) (Nat.le_of_ble_eq_true rfl) hlocks (⟨rfl, anyB_t (i := i) (by simp [c_13, c_27]) (by omega)⟩) (Nat.le_of_ble_eq_true rfl) (Nat.le_of_ble_eq_true rfl)
set_option maxHeartbeats 4000000 in
set_option maxRecDepth 100000 in
theorem c_X0_remake (l : Launch) (hst : l.stackTraces = false) (D : va_G) (cI : ClassId) (q : Nat → Nat) (sh sp ld nm tx ds ct : Nat → Int32) (co : Int64) (kg : Int32) (ks : Nat → Int32) (T K : Nat → Nat) (hG : ∀ w, w < 32 → T w < 32768 ∧ K w ≤ 5 ∧ tx w = nI (32768 * K w + T w) ∧ ∀ j, j < K w → S25 (ct (w * 5 + j))) (hDt : va_D (fun _ => True) (wx cI q sh sp ld nm tx ds ct co kg ks)) : vx_Met l yX0_remake wsX0_remake ({ frames := 7, cells := 8, slots := 48, locals := 162 } : Room) (k_P [.ref (q 0)] (fun U => k_B D (wx cI q sh sp ld nm tx ds ct co kg ks) [(cI, .int)] U ∧ k_ex U)) (k_WQ D (wx cI q sh sp ld nm tx ds ct co kg ks) (fun u : (Nat → Int32) × Int64 × Int32 => cd1 (!anyB (badC sh sp ct T K) 32) = 0 ∧ rmF sh (pltC sh sp T K) T K ct co 32 = u) (fun u => wx cI q sh sp ld nm tx ds u.1 u.2.1 (nI 0) ks) (fun u => some (.int u.2.2))) (k_XC (fun E => (E, cd1 (!anyB (badC sh sp ct T K) 32)) ∈ ([(k_IS, 1)] : List (String × Nat)))) 8 48 (k_A (wx cI q sh sp ld nm tx ds ct co kg ks)) := by
  refine k_headX (cc := cX0_remake) (maxL := 3) (ret := (some .int)) [(0, .ref (q 0))] (by decide) rfl (Nat.le_of_ble_eq_true rfl) rfl ?_
  intro p e s m below meth c ls hx hb hr hml hown hts hlocks ht hB hl
  have hown : s.vm.findClass RX0 = some m.cls := hown
  obtain ⟨⟨hP, hK⟩, hex⟩ := hB
  have hin : ∀ w ∈ wsX00, w ∈ wsX0_remake := fun w h => List.mem_cons_of_mem _ (List.mem_append_left _ (List.mem_append_right _ h))
  have hD := k_A_D hDt
  have hS : va_S (k_A (wx cI q sh sp ld nm tx ds ct co kg ks)) s.heap s.heap [] := va_S.rf
  refine lv_aload_n hx hb dX0_remake_0 rfl (lv_at hl 0 rfl) ?_
  refine k_reqV (As := []) (rest := []) ⟨hx, hb, hml, hown, hts⟩ (c_X0_requirePlatesForOutdated l hst D cI q sh sp ld nm tx ds ct co kg ks T K hG) (cwV 0 hts gX0_remake_X0_requirePlatesForOutdated rfl rfl rfl (by decide +kernel) ⟨Nat.le_of_ble_eq_true rfl, Nat.le_of_ble_eq_true rfl⟩) (k_ex_and k_B_bl) (fun U hU hW => ⟨k_B_of hP hK U hU hW, k_ex_of hex U hU hW⟩) (va_recv hK hP (ci := 0) (q0 := 0) rfl rfl) rfl hl.1 rfl (Nat.le_of_ble_eq_true rfl) dX0_remake_1 ⟨Nat.le_of_ble_eq_true rfl, Nat.le_of_ble_eq_true rfl⟩ (fun E h => by obtain ⟨rfl, h⟩ := h; rw [cd1_1 (by rw [h]; rfl)]; exact List.mem_cons_self) ht hlocks (Nat.le_of_ble_eq_true rfl) (Nat.le_of_ble_eq_true rfl) (fun c_1 => ?_)
  refine lv_iconst (v := nI 0) hx hb dX0_remake_4 (by decide) ?_
  refine lv_istore_n (lv' := [(1, .int (nI 0)), (0, .ref (q 0))]) hx hb dX0_remake_5 rfl hl (by decide) rfl (fun ls hl => ?_)
  refine lv_iconst (v := nI 0) hx hb dX0_remake_6 (by decide) ?_
  refine lv_istore_n (lv' := [(2, .int (nI 0)), (1, .int (nI 0)), (0, .ref (q 0))]) hx hb dX0_remake_7 rfl hl (by decide) rfl (fun ls hl => ?_)
  refine W.loopH (fun i H locs ls => ∃ (ct1 : Nat → Int32) (co1 : Int64) (n1 : Int32), (rmF sh (pltC sh sp T K) T K ct co i = (ct1, co1, n1)) ∧ va_P D vwCl (wx cI q sh sp ld nm tx ds ct1 co1 kg ks) H ∧ va_D (k_A (wx cI q sh sp ld nm tx ds ct co kg ks)) (wx cI q sh sp ld nm tx ds ct1 co1 kg ks) ∧ va_S (k_A (wx cI q sh sp ld nm tx ds ct co kg ks)) s.heap H locs ∧ lv_has ls 3 [(0, .ref (q 0)), (1, .int n1), (2, .int (nI i))]) (32) (0) (by omega) ⟨ct, co, nI 0, rfl, hP, hD, hS, lv_sub hl [2, 1, 0] rfl⟩ ?_
  intro i H locs ls hi_8 hI_8 ih_8
  obtain ⟨ct1, co1, n1, hf0_8, hP, hD, hS, hl⟩ := hI_8
  refine lv_iload_n hx hb dX0_remake_8 rfl (lv_at hl 2 rfl) ?_
  refine lv_bipush (v := nI 32) hx hb dX0_remake_9 (by decide) ?_
  refine n_icmp_ge (tgt := 46) hx hb dX0_remake_11 (by decide) (by omega) (by omega) (fun c_11 => ?_) (fun c_11 => ?_)
  · refine lv_aload_n hx hb dX0_remake_46 rfl (lv_at hl 0 rfl) ?_
    refine k_callVW (wr := []) (As := []) (rest := []) ⟨hx, hb, hml, hown, hts⟩ (c_X0_forgetWalks l D cI q sh sp ld nm tx ds ct1 co1 kg ks (k_D_tt hD)) (cwV 0 hts gX0_remake_X0_forgetWalks rfl rfl rfl (by decide +kernel) ⟨Nat.le_of_ble_eq_true rfl, Nat.le_of_ble_eq_true rfl⟩) k_B_bl (k_B_of hP hK) (va_recv hK hP (ci := 0) (q0 := 0) rfl rfl) rfl hl.1 rfl (Nat.le_of_ble_eq_true rfl) dX0_remake_47 ⟨Nat.le_of_ble_eq_true rfl, Nat.le_of_ble_eq_true rfl⟩ hP hD hS [] [0, 1, 2, 3, 4, 5, 6, 7, 8] rfl rfl (fun _ => rfl) (fun u_47 H locs hu_47 hP hD hS hsz hkp => ?_)
    have hP : va_P D vwCl (wx cI q sh sp ld nm tx ds ct1 co1 (nI 0) ks) H := hP
    have hD : va_D _ (wx cI q sh sp ld nm tx ds ct1 co1 (nI 0) ks) := hD
    refine lv_iload_n hx hb dX0_remake_50 rfl (lv_at hl 1 rfl) ?_
    exact vx_ret (k_wiret (ct1, co1, n1)  hx hb hr hlocks dX0_remake_51 (⟨cd1_0 (by rw [c_1]; rfl), by rw [← hf0_8, show i = 32 from by omega]⟩) rfl hP hS (Nat.le_of_ble_eq_true rfl) (Nat.le_of_ble_eq_true rfl))
  · refine lv_aload_n hx hb dX0_remake_14 rfl (lv_at hl 0 rfl) ?_
    refine lv_iload_n hx hb dX0_remake_15 rfl (lv_at hl 2 rfl) ?_
    refine k_callVi (As := [.int (nI i)]) (rest := []) ⟨hx, hb, hml, hown, hts⟩ (c_X0_isOutdated l D cI q sh sp ld nm tx ds ct1 co1 kg ks i (T i) (K i) (by omega) (hG _ (by omega)).1 (hG _ (by omega)).2.1 (hG _ (by omega)).2.2.1) (cwV 1 hts gX0_remake_X0_isOutdated rfl rfl rfl (by decide +kernel) ⟨Nat.le_of_ble_eq_true rfl, Nat.le_of_ble_eq_true rfl⟩) k_B_bl (k_B_of hP hK) (va_recv hK hP (ci := 0) (q0 := 0) rfl rfl) rfl hl.1 rfl (Nat.le_of_ble_eq_true rfl) dX0_remake_16 ⟨Nat.le_of_ble_eq_true rfl, Nat.le_of_ble_eq_true rfl⟩ ?_
    refine b_if_eq (tgt := 40) hx hb dX0_remake_19 (by decide) (fun c_19 => ?_) (fun c_19 => ?_)
    · refine lv_iinc (v := nI (i + 1)) (lv' := [(2, .int (nI (i + 1))), (0, .ref (q 0)), (1, .int n1)]) hx hb dX0_remake_40 hl (k := 2) rfl (nI_inc _) (by decide) rfl (fun ls hl => ?_)
      refine lv_goto (tgt := 8) hx hb dX0_remake_43 (by decide) ?_
      exact ih_8 _ _ _ (by omega) ⟨ct1, co1, n1, rmF_f hf0_8 c_19, hP, hD, hS, lv_sub hl [1, 2, 0] rfl⟩
    · refine lv_aload_n hx hb dX0_remake_22 rfl (lv_at hl 0 rfl) ?_
      refine lv_iload_n hx hb dX0_remake_23 rfl (lv_at hl 2 rfl) ?_
      refine lv_aload_n hx hb dX0_remake_24 rfl (lv_at hl 0 rfl) ?_
      refine lv_aload_n hx hb dX0_remake_25 rfl (lv_at hl 0 rfl) ?_
      refine va_get (D := D) (ci := 0) (v := .ref (q 5)) (C := RX0) (T := TX0) (N := 10) hx hb hts hin hown hK hP 0 rfl rfl 4 (by decide) (hts (.fieldLink RX0 22 "SignRail" "signTexts" "[I") (by decide +kernel)) (fun _ h9 => h9) rfl dX0_remake_26 ?_
      refine lv_iload_n hx hb dX0_remake_29 rfl (lv_at hl 2 rfl) ?_
      refine n_iald hx hb hK hP 5 0 rfl rfl (k := i) (by omega) (Nat.le_of_ble_eq_true rfl) dX0_remake_30 ?_
      refine lv_as (y := nI (32768 * (K i) + (T i))) ((hG _ (by omega)).2.2.1) ?_
      refine k_callVi (As := [.int (nI (32768 * (K i) + (T i)))]) (rest := [.int (nI i), .ref (q 0)]) ⟨hx, hb, hml, hown, hts⟩ (c_X0_plateFor l D cI q sh sp ld nm tx ds ct1 co1 kg ks (T i) (K i) (hG _ (by omega)).1 (hG _ (by omega)).2.1) (cwV 1 hts gX0_remake_X0_plateFor rfl rfl rfl (by decide +kernel) ⟨Nat.le_of_ble_eq_true rfl, Nat.le_of_ble_eq_true rfl⟩) k_B_bl (k_B_of hP hK) (va_recv hK hP (ci := 0) (q0 := 0) rfl rfl) rfl hl.1 rfl (Nat.le_of_ble_eq_true rfl) dX0_remake_31 ⟨Nat.le_of_ble_eq_true rfl, Nat.le_of_ble_eq_true rfl⟩ ?_
      refine k_callVW (wr := []) (As := [.int (nI i), .int (plF (pwC (wdS sh) sp (T i) (K i)))]) (rest := []) ⟨hx, hb, hml, hown, hts⟩ (c_X0_engrave l D cI q sh sp ld nm tx ds ct1 co1 kg ks i (T i) (K i) (by omega) (hG _ (by omega)).1 (hG _ (by omega)).2.1 (hG _ (by omega)).2.2.1 (plF (pwC (wdS sh) sp (T i) (K i))) (k_D_tt hD)) (cwV 2 hts gX0_remake_X0_engrave rfl rfl rfl (by decide +kernel) ⟨Nat.le_of_ble_eq_true rfl, Nat.le_of_ble_eq_true rfl⟩) k_B_bl (k_B_of hP hK) (va_recv hK hP (ci := 0) (q0 := 0) rfl rfl) rfl hl.1 rfl (Nat.le_of_ble_eq_true rfl) dX0_remake_34 ⟨Nat.le_of_ble_eq_true rfl, Nat.le_of_ble_eq_true rfl⟩ hP hD hS [] [0, 1, 2, 3, 4, 5, 6, 7, 8] rfl rfl (fun _ => rfl) (fun u_34 H locs hu_34 hP hD hS hsz hkp => ?_)
      have hP : va_P D vwCl (wx cI q sh sp ld nm tx ds (engF sh ct1 i (T i) (K i)) (co1 + (plF (pwC (wdS sh) sp (T i) (K i))).toInt64) kg ks) H := hP
      have hD : va_D _ (wx cI q sh sp ld nm tx ds (engF sh ct1 i (T i) (K i)) (co1 + (plF (pwC (wdS sh) sp (T i) (K i))).toInt64) kg ks) := hD
      refine lv_iinc (v := n1 + nI 1) (lv' := [(1, .int (n1 + nI 1)), (0, .ref (q 0)), (2, .int (nI i))]) hx hb dX0_remake_37 hl (k := 1) rfl (rfl) (by decide) rfl (fun ls hl => ?_)
      refine lv_iinc (v := nI (i + 1)) (lv' := [(2, .int (nI (i + 1))), (1, .int (n1 + nI 1)), (0, .ref (q 0))]) hx hb dX0_remake_40 hl (k := 2) rfl (nI_inc _) (by decide) rfl (fun ls hl => ?_)
      refine lv_goto (tgt := 8) hx hb dX0_remake_43 (by decide) ?_
      exact ih_8 _ _ _ (by omega) ⟨engF sh ct1 i (T i) (K i), co1 + (plF (pwC (wdS sh) sp (T i) (K i))).toInt64, n1 + nI 1, rmF_t hf0_8 c_19, hP, hD, hS, lv_sub hl [2, 1, 0] rfl⟩
set_option maxHeartbeats 4000000 in
set_option maxRecDepth 100000 in
theorem c_X0_cost (l : Launch) (D : va_G) (cI : ClassId) (q : Nat → Nat) (sh sp ld nm tx ds ct : Nat → Int32) (co : Int64) (kg : Int32) (ks : Nat → Int32) : k_M l yX0_cost wsX0_cost ({ frames := 0, cells := 0, slots := 0, locals := 0 } : Room) [.ref (q 0)] (k_B D (wx cI q sh sp ld nm tx ds ct co kg ks) [(cI, .int)]) (some (.long co)) := by
  refine k_head (cc := cX0_cost) (maxL := 1) (ret := some .long) [(0, .ref (q 0))] (by decide) rfl (Nat.le_of_ble_eq_true rfl) rfl ?_
  intro p e s m below meth c ls hx hb hr hml hown hts hlocks hname hB hl
  have hown : s.vm.findClass RX0 = some m.cls := hown
  obtain ⟨hP, hK⟩ := hB
  have hin : ∀ w ∈ wsX00, w ∈ wsX0_cost := fun w h => List.mem_cons_of_mem _ (List.mem_append_right _ h)
  refine lv_aload_n hx hb dX0_cost_0 rfl (lv_at hl 0 rfl) ?_
  refine va_get (D := D) (ci := 0) (v := .long co) (C := RX0) (T := TX0) (N := 10) hx hb hts hin hown hK hP 0 rfl rfl 7 (by decide) (hts (.fieldLink RX0 31 "SignRail" "costSoFar" "J") (by decide +kernel)) (fun _ h9 => h9) rfl dX0_cost_1 ?_
  exact W.lret hx hb hr (fun t ht hW => ⟨rfl, ht⟩) (fun q hq => nomatch hq) dX0_cost_4 hlocks
set_option maxHeartbeats 4000000 in
set_option maxRecDepth 100000 in
theorem c_X0_walkBySteps (l : Launch) (hst : l.stackTraces = false) (D : va_G) (cI : ClassId) (q : Nat → Nat) (sh sp ld nm tx ds ct : Nat → Int32) (co : Int64) (kg : Int32) (ks : Nat → Int32) (p0 t m0 : Int32) (T K : Nat → Nat) (hG : ∀ w, w < 32 → T w < 32768 ∧ K w ≤ 5 ∧ tx w = nI (32768 * K w + T w) ∧ ∀ j, j < K w → S25 (ct (w * 5 + j))) (Ld : Nat → Nat) (hLd : ∀ w, w < 32 → Ld w ≤ 8 ∧ ld w = ix (Ld w)) (hsh : ∀ g, g < 8 → S25 (sh g)) (NT NK : Nat → Nat) (hN : ∀ p, p < 8 → NT p < 32768 ∧ NK p ≤ 5 ∧ nm p = nI (32768 * NK p + NT p)) (hDt : va_D (fun _ => True) (wx cI q sh sp ld nm tx ds ct co kg ks)) : vx_Met l yX0_walkBySteps wsX0_walkBySteps ({ frames := 7, cells := 8, slots := 48, locals := 167 } : Room) (k_P [.ref (q 0), .int p0, .int t, .int m0] (fun U => k_B D (wx cI q sh sp ld nm tx ds ct co kg ks) [(cI, .int)] U ∧ k_ex U)) (k_WQ D (wx cI q sh sp ld nm tx ds ct co kg ks) (fun u : Nat × Nat × Nat => cd2 (inB p0 8) (txB t m0) = 0 ∧ u.1 < 8 ∧ p0 = nI u.1 ∧ 1 ≤ u.2.2 ∧ u.2.2 ≤ 5 ∧ u.2.1 < 8 ^ u.2.2 ∧ t = nI u.2.1 ∧ m0 = nI u.2.2) (fun u => wx cI q sh sp ld nm tx ds ct co kg ks) (fun u => some (.int (sa (toldC sh ct ds K u.2.2 u.2.1) Ld (arrC NK NT u.2.2 u.2.1) 31 0 u.1 tk0)))) (k_XC (fun E => (E, cd2 (inB p0 8) (txB t m0)) ∈ ([(k_IO, 1), (k_IA, 2)] : List (String × Nat)))) 8 48 (k_A (wx cI q sh sp ld nm tx ds ct co kg ks)) := by
  refine k_headX (cc := cX0_walkBySteps) (maxL := 4) (ret := (some .int)) [(0, .ref (q 0)), (1, .int p0), (2, .int t), (3, .int m0)] (by decide) rfl (Nat.le_of_ble_eq_true rfl) rfl ?_
  intro p e s m below meth c ls hx hb hr hml hown hts hlocks ht hB hl
  have hown : s.vm.findClass RX0 = some m.cls := hown
  obtain ⟨⟨hP, hK⟩, hex⟩ := hB
  have hin : ∀ w ∈ wsX00, w ∈ wsX0_walkBySteps := fun w h => List.mem_cons_of_mem _ (List.mem_append_left _ (List.mem_append_left _ (List.mem_append_right _ h)))
  have hD := k_A_D hDt
  have hS : va_S (k_A (wx cI q sh sp ld nm tx ds ct co kg ks)) s.heap s.heap [] := va_S.rf
  refine lv_iload_n hx hb dX0_walkBySteps_0 rfl (lv_at hl 1 rfl) ?_
  refine k_reqS (As := [.int p0]) (rest := []) ⟨hx, hb, hml, hown, hts⟩ (c_X0_requirePlace l hst p0) (va_cwS 1 hts gX0_walkBySteps_X0_requirePlace rfl rfl rfl (by decide +kernel) ⟨Nat.le_of_ble_eq_true rfl, Nat.le_of_ble_eq_true rfl⟩) k_ex_bl (k_ex_of hex) rfl hl.1 rfl (Nat.le_of_ble_eq_true rfl) dX0_walkBySteps_1 ⟨Nat.le_of_ble_eq_true rfl, Nat.le_of_ble_eq_true rfl⟩ (fun E h => by obtain ⟨rfl, h⟩ := h; rw [cd2_1 h]; exact List.mem_cons_self) ht hlocks (Nat.le_of_ble_eq_true rfl) (Nat.le_of_ble_eq_true rfl) (fun c_1 => ?_)
  obtain ⟨p', hp', rfl⟩ := inB_ex (by decide) (c_1)
  refine lv_iload_n hx hb dX0_walkBySteps_4 rfl (lv_at hl 2 rfl) ?_
  refine lv_iload_n hx hb dX0_walkBySteps_5 rfl (lv_at hl 3 rfl) ?_
  refine k_reqS (As := [.int t, .int m0]) (rest := []) ⟨hx, hb, hml, hown, hts⟩ (c_X0_requireText l hst t m0) (va_cwS 2 hts gX0_walkBySteps_X0_requireText rfl rfl rfl (by decide +kernel) ⟨Nat.le_of_ble_eq_true rfl, Nat.le_of_ble_eq_true rfl⟩) k_ex_bl (k_ex_of hex) rfl hl.1 rfl (Nat.le_of_ble_eq_true rfl) dX0_walkBySteps_6 ⟨Nat.le_of_ble_eq_true rfl, Nat.le_of_ble_eq_true rfl⟩ (fun E h => by obtain ⟨rfl, h⟩ := h; rw [cd2_2 c_1 h]; exact List.mem_cons_of_mem _ List.mem_cons_self) ht hlocks (Nat.le_of_ble_eq_true rfl) (Nat.le_of_ble_eq_true rfl) (fun c_6 => ?_)
  obtain ⟨t', k, hk1, hk5, htk, rfl, rfl⟩ := txB_ex c_6
  have hp8 := p8_le hk5
  have ht' : t' < 32768 := by omega
  refine lv_aload_n hx hb dX0_walkBySteps_9 rfl (lv_at hl 0 rfl) ?_
  refine lv_iload_n hx hb dX0_walkBySteps_10 rfl (lv_at hl 1 rfl) ?_
  refine lv_iload_n hx hb dX0_walkBySteps_11 rfl (lv_at hl 2 rfl) ?_
  refine lv_iload_n hx hb dX0_walkBySteps_12 rfl (lv_at hl 3 rfl) ?_
  refine k_callSi (As := [.int (nI t'), .int (nI k)]) (rest := [.int (nI p'), .ref (q 0)]) ⟨hx, hb, hml, hown, hts⟩ (c_X0_pack l t' k (by omega) (by omega)) (va_cwS 2 hts gX0_walkBySteps_X0_pack rfl rfl rfl (by decide +kernel) ⟨Nat.le_of_ble_eq_true rfl, Nat.le_of_ble_eq_true rfl⟩) k_bl_tt (fun _ _ _ => trivial) rfl hl.1 rfl (Nat.le_of_ble_eq_true rfl) dX0_walkBySteps_13 ⟨Nat.le_of_ble_eq_true rfl, Nat.le_of_ble_eq_true rfl⟩ ?_
  refine k_callVi (As := [.int (nI p'), .int (nI (32768 * k + t'))]) (rest := []) ⟨hx, hb, hml, hown, hts⟩ (c_X0_stepsToArrive l D cI q sh sp ld nm tx ds ct co kg ks p' hp' t' k ht' hk5 T K Ld hG hLd hsh NT NK hN) (cwV 2 hts gX0_walkBySteps_X0_stepsToArrive rfl rfl rfl (by decide +kernel) ⟨Nat.le_of_ble_eq_true rfl, Nat.le_of_ble_eq_true rfl⟩) k_B_bl (k_B_of hP hK) (va_recv hK hP (ci := 0) (q0 := 0) rfl rfl) rfl hl.1 rfl (Nat.le_of_ble_eq_true rfl) dX0_walkBySteps_16 ⟨Nat.le_of_ble_eq_true rfl, Nat.le_of_ble_eq_true rfl⟩ ?_
  exact vx_ret (k_wiret (p', t', k)  hx hb hr hlocks dX0_walkBySteps_19 (⟨cd2_0 c_1 c_6, hp', rfl, hk1, hk5, htk, rfl, rfl⟩) rfl hP hS (Nat.le_of_ble_eq_true rfl) (Nat.le_of_ble_eq_true rfl))
set_option maxHeartbeats 4000000 in
set_option maxRecDepth 100000 in
theorem c_X0_placeBehind (l : Launch) (hst : l.stackTraces = false) (D : va_G) (cI : ClassId) (q : Nat → Nat) (sh sp ld nm tx ds ct : Nat → Int32) (co : Int64) (kg : Int32) (ks : Nat → Int32) (p0 t m0 s0 : Int32) (T K : Nat → Nat) (hG : ∀ w, w < 32 → T w < 32768 ∧ K w ≤ 5 ∧ tx w = nI (32768 * K w + T w) ∧ ∀ j, j < K w → S25 (ct (w * 5 + j))) (Ld : Nat → Nat) (hLd : ∀ w, w < 32 → Ld w ≤ 8 ∧ ld w = ix (Ld w)) (hsh : ∀ g, g < 8 → S25 (sh g)) (NT NK : Nat → Nat) (hN : ∀ p, p < 8 → NT p < 32768 ∧ NK p ≤ 5 ∧ nm p = nI (32768 * NK p + NT p)) (hDt : va_D (fun _ => True) (wx cI q sh sp ld nm tx ds ct co kg ks)) : vx_Met l yX0_placeBehind wsX0_placeBehind ({ frames := 7, cells := 8, slots := 48, locals := 168 } : Room) (k_P [.ref (q 0), .int p0, .int t, .int m0, .int s0] (fun U => k_B D (wx cI q sh sp ld nm tx ds ct co kg ks) [(cI, .int)] U ∧ k_ex U)) (k_WQ D (wx cI q sh sp ld nm tx ds ct co kg ks) (fun u : Nat × Nat × Nat × Nat => cd2 (inB p0 8) (txB t m0 && inB s0 31) = 0 ∧ u.1 < 8 ∧ p0 = nI u.1 ∧ 1 ≤ u.2.2.1 ∧ u.2.2.1 ≤ 5 ∧ u.2.1 < 8 ^ u.2.2.1 ∧ t = nI u.2.1 ∧ m0 = nI u.2.2.1 ∧ u.2.2.2 < 31 ∧ s0 = nI u.2.2.2) (fun u => wx cI q sh sp ld nm tx ds ct co kg ks) (fun u => some (.int (nI (pl (toldC sh ct ds K u.2.2.1 u.2.1) Ld (arrC NK NT u.2.2.1 u.2.1) u.2.2.2 u.1 tk0))))) (k_XC (fun E => (E, cd2 (inB p0 8) (txB t m0 && inB s0 31)) ∈ ([(k_IO, 1), (k_IA, 2)] : List (String × Nat)))) 8 48 (k_A (wx cI q sh sp ld nm tx ds ct co kg ks)) := by
  refine k_headX (cc := cX0_placeBehind) (maxL := 5) (ret := (some .int)) [(0, .ref (q 0)), (1, .int p0), (2, .int t), (3, .int m0), (4, .int s0)] (by decide) rfl (Nat.le_of_ble_eq_true rfl) rfl ?_
  intro p e s m below meth c ls hx hb hr hml hown hts hlocks ht hB hl
  have hown : s.vm.findClass RX0 = some m.cls := hown
  obtain ⟨⟨hP, hK⟩, hex⟩ := hB
  have hin : ∀ w ∈ wsX00, w ∈ wsX0_placeBehind := fun w h => List.mem_cons_of_mem _ (List.mem_append_left _ (List.mem_append_left _ (List.mem_append_right _ h)))
  have hD := k_A_D hDt
  have hS : va_S (k_A (wx cI q sh sp ld nm tx ds ct co kg ks)) s.heap s.heap [] := va_S.rf
  refine lv_iload_n hx hb dX0_placeBehind_0 rfl (lv_at hl 1 rfl) ?_
  refine k_reqS (As := [.int p0]) (rest := []) ⟨hx, hb, hml, hown, hts⟩ (c_X0_requirePlace l hst p0) (va_cwS 1 hts gX0_placeBehind_X0_requirePlace rfl rfl rfl (by decide +kernel) ⟨Nat.le_of_ble_eq_true rfl, Nat.le_of_ble_eq_true rfl⟩) k_ex_bl (k_ex_of hex) rfl hl.1 rfl (Nat.le_of_ble_eq_true rfl) dX0_placeBehind_1 ⟨Nat.le_of_ble_eq_true rfl, Nat.le_of_ble_eq_true rfl⟩ (fun E h => by obtain ⟨rfl, h⟩ := h; rw [cd2_1 h]; exact List.mem_cons_self) ht hlocks (Nat.le_of_ble_eq_true rfl) (Nat.le_of_ble_eq_true rfl) (fun c_1 => ?_)
  obtain ⟨p', hp', rfl⟩ := inB_ex (by decide) (c_1)
  refine lv_iload_n hx hb dX0_placeBehind_4 rfl (lv_at hl 2 rfl) ?_
  refine lv_iload_n hx hb dX0_placeBehind_5 rfl (lv_at hl 3 rfl) ?_
  refine k_reqS (As := [.int t, .int m0]) (rest := []) ⟨hx, hb, hml, hown, hts⟩ (c_X0_requireText l hst t m0) (va_cwS 2 hts gX0_placeBehind_X0_requireText rfl rfl rfl (by decide +kernel) ⟨Nat.le_of_ble_eq_true rfl, Nat.le_of_ble_eq_true rfl⟩) k_ex_bl (k_ex_of hex) rfl hl.1 rfl (Nat.le_of_ble_eq_true rfl) dX0_placeBehind_6 ⟨Nat.le_of_ble_eq_true rfl, Nat.le_of_ble_eq_true rfl⟩ (fun E h => by obtain ⟨rfl, h⟩ := h; rw [cd2_2 c_1 (and_l h)]; exact List.mem_cons_of_mem _ List.mem_cons_self) ht hlocks (Nat.le_of_ble_eq_true rfl) (Nat.le_of_ble_eq_true rfl) (fun c_6 => ?_)
  obtain ⟨t', k, hk1, hk5, htk, rfl, rfl⟩ := txB_ex c_6
  have hp8 := p8_le hk5
  have ht' : t' < 32768 := by omega
  refine lv_iload hx hb dX0_placeBehind_9 (lv_at hl 4 rfl) ?_
  refine lv_if_lt (tgt := 21) hx hb dX0_placeBehind_11 (by decide) (fun c_11 => ?_) (fun c_11 => ?_)
  · exact k_throw (cls := k_IA) (text := "no such number of steps") (ik := 71) (is := 129) (ic := 75) hx hb hst hown (by decide) (hts (.classLink RX0 71 k_IA) (by decide +kernel)) (hts (.initialized k_IA) (by decide +kernel)) hex (by decide) (fun w h => hts w (List.mem_cons_of_mem _ (List.mem_append_left _ (List.mem_append_right _ h)))) k_ngIA k_gdIA (hl.1.trans hml.symm) dX0_placeBehind_21 dX0_placeBehind_24 dX0_placeBehind_25 dX0_placeBehind_27 dX0_placeBehind_30 ht (Nat.le_of_ble_eq_true rfl) (Nat.le_of_ble_eq_true rfl) (Nat.le_of_ble_eq_true rfl) (Nat.le_of_ble_eq_true rfl) hlocks (by rw [cd2_2 c_1 (and_r (by first | exact inB_lt c_11 | exact st_f c_18))]; exact List.mem_cons_of_mem _ List.mem_cons_self) (Nat.le_of_ble_eq_true rfl) (Nat.le_of_ble_eq_true rfl)
  · refine lv_iload hx hb dX0_placeBehind_14 (lv_at hl 4 rfl) ?_
    refine lv_bipush (v := nI 30) hx hb dX0_placeBehind_16 (by decide) ?_
    refine lv_icmp_le (tgt := 31) hx hb dX0_placeBehind_18 (by decide) (fun c_18 => ?_) (fun c_18 => ?_)
    · have hs31 := st_t c_11 c_18
      obtain ⟨s', hs', rfl⟩ := inB_ex (by decide) (hs31)
      refine lv_aload_n hx hb dX0_placeBehind_31 rfl (lv_at hl 0 rfl) ?_
      refine lv_iload_n hx hb dX0_placeBehind_32 rfl (lv_at hl 1 rfl) ?_
      refine lv_iload_n hx hb dX0_placeBehind_33 rfl (lv_at hl 2 rfl) ?_
      refine lv_iload_n hx hb dX0_placeBehind_34 rfl (lv_at hl 3 rfl) ?_
      refine k_callSi (As := [.int (nI t'), .int (nI k)]) (rest := [.int (nI p'), .ref (q 0)]) ⟨hx, hb, hml, hown, hts⟩ (c_X0_pack l t' k (by omega) (by omega)) (va_cwS 2 hts gX0_placeBehind_X0_pack rfl rfl rfl (by decide +kernel) ⟨Nat.le_of_ble_eq_true rfl, Nat.le_of_ble_eq_true rfl⟩) k_bl_tt (fun _ _ _ => trivial) rfl hl.1 rfl (Nat.le_of_ble_eq_true rfl) dX0_placeBehind_35 ⟨Nat.le_of_ble_eq_true rfl, Nat.le_of_ble_eq_true rfl⟩ ?_
      refine lv_iload hx hb dX0_placeBehind_38 (lv_at hl 4 rfl) ?_
      refine k_callVi (As := [.int (nI p'), .int (nI (32768 * k + t')), .int (nI s')]) (rest := []) ⟨hx, hb, hml, hown, hts⟩ (c_X0_placeReached l D cI q sh sp ld nm tx ds ct co kg ks p' hp' t' k ht' hk5 s' (by omega) T K Ld hG hLd hsh NT NK hN) (cwV 3 hts gX0_placeBehind_X0_placeReached rfl rfl rfl (by decide +kernel) ⟨Nat.le_of_ble_eq_true rfl, Nat.le_of_ble_eq_true rfl⟩) k_B_bl (k_B_of hP hK) (va_recv hK hP (ci := 0) (q0 := 0) rfl rfl) rfl hl.1 rfl (Nat.le_of_ble_eq_true rfl) dX0_placeBehind_40 ⟨Nat.le_of_ble_eq_true rfl, Nat.le_of_ble_eq_true rfl⟩ ?_
      exact vx_ret (k_wiret (p', t', k, s')  hx hb hr hlocks dX0_placeBehind_43 (⟨cd2_0 c_1 (and_t c_6 hs31), hp', rfl, hk1, hk5, htk, rfl, rfl, hs', rfl⟩) rfl hP hS (Nat.le_of_ble_eq_true rfl) (Nat.le_of_ble_eq_true rfl))
    · exact k_throw (cls := k_IA) (text := "no such number of steps") (ik := 71) (is := 129) (ic := 75) hx hb hst hown (by decide) (hts (.classLink RX0 71 k_IA) (by decide +kernel)) (hts (.initialized k_IA) (by decide +kernel)) hex (by decide) (fun w h => hts w (List.mem_cons_of_mem _ (List.mem_append_left _ (List.mem_append_right _ h)))) k_ngIA k_gdIA (hl.1.trans hml.symm) dX0_placeBehind_21 dX0_placeBehind_24 dX0_placeBehind_25 dX0_placeBehind_27 dX0_placeBehind_30 ht (Nat.le_of_ble_eq_true rfl) (Nat.le_of_ble_eq_true rfl) (Nat.le_of_ble_eq_true rfl) (Nat.le_of_ble_eq_true rfl) hlocks (by rw [cd2_2 c_1 (and_r (by first | exact inB_lt c_11 | exact st_f c_18))]; exact List.mem_cons_of_mem _ List.mem_cons_self) (Nat.le_of_ble_eq_true rfl) (Nat.le_of_ble_eq_true rfl)
set_option maxHeartbeats 4000000 in
set_option maxRecDepth 100000 in
theorem c_X0_walk (l : Launch) (hst : l.stackTraces = false) (D : va_G) (cI : ClassId) (q : Nat → Nat) (sh sp ld nm tx ds ct : Nat → Int32) (co : Int64) (kg : Int32) (ks : Nat → Int32) (p0 t m0 : Int32) (T K : Nat → Nat) (hG : ∀ w, w < 32 → T w < 32768 ∧ K w ≤ 5 ∧ tx w = nI (32768 * K w + T w) ∧ ∀ j, j < K w → S25 (ct (w * 5 + j))) (Ld : Nat → Nat) (hLd : ∀ w, w < 32 → Ld w ≤ 8 ∧ ld w = ix (Ld w)) (hsh : ∀ g, g < 8 → S25 (sh g)) (NT NK : Nat → Nat) (hN : ∀ p, p < 8 → NT p < 32768 ∧ NK p ≤ 5 ∧ nm p = nI (32768 * NK p + NT p)) (hKp : kpOK (fun gk gt p => sa (toldC sh ct ds K gk gt) Ld (arrC NK NT gk gt) 31 0 p tk0) kg ks) (hDt : va_D (fun _ => True) (wx cI q sh sp ld nm tx ds ct co kg ks)) : vx_Met l yX0_walk wsX0_walk ({ frames := 7, cells := 8, slots := 48, locals := 167 } : Room) (k_P [.ref (q 0), .int p0, .int t, .int m0] (fun U => k_B D (wx cI q sh sp ld nm tx ds ct co kg ks) [(cI, .int)] U ∧ k_ex U)) (k_WQ D (wx cI q sh sp ld nm tx ds ct co kg ks) (fun u : (Nat × Nat × Nat) × Int32 × (Nat → Int32) => cd2 (inB p0 8) (txB t m0) = 0 ∧ u.1.1 < 8 ∧ p0 = nI u.1.1 ∧ 1 ≤ u.1.2.2 ∧ u.1.2.2 ≤ 5 ∧ u.1.2.1 < 8 ^ u.1.2.2 ∧ t = nI u.1.2.1 ∧ m0 = nI u.1.2.2 ∧ kpOK (fun gk gt p => sa (toldC sh ct ds K gk gt) Ld (arrC NK NT gk gt) 31 0 p tk0) u.2.1 u.2.2) (fun u => wx cI q sh sp ld nm tx ds ct co u.2.1 u.2.2) (fun u => some (.int (sa (toldC sh ct ds K u.1.2.2 u.1.2.1) Ld (arrC NK NT u.1.2.2 u.1.2.1) 31 0 u.1.1 tk0)))) (k_XC (fun E => (E, cd2 (inB p0 8) (txB t m0)) ∈ ([(k_IO, 1), (k_IA, 2)] : List (String × Nat)))) 8 48 (k_A (wx cI q sh sp ld nm tx ds ct co kg ks)) := by
  refine k_headX (cc := cX0_walk) (maxL := 5) (ret := (some .int)) [(0, .ref (q 0)), (1, .int p0), (2, .int t), (3, .int m0)] (by decide) rfl (Nat.le_of_ble_eq_true rfl) rfl ?_
  intro p e s m below meth c ls hx hb hr hml hown hts hlocks ht hB hl
  have hown : s.vm.findClass RX0 = some m.cls := hown
  obtain ⟨⟨hP, hK⟩, hex⟩ := hB
  have hin : ∀ w ∈ wsX00, w ∈ wsX0_walk := fun w h => List.mem_cons_of_mem _ (List.mem_append_left _ (List.mem_append_left _ (List.mem_append_right _ h)))
  have hD := k_A_D hDt
  have hS : va_S (k_A (wx cI q sh sp ld nm tx ds ct co kg ks)) s.heap s.heap [] := va_S.rf
  refine lv_iload_n hx hb dX0_walk_0 rfl (lv_at hl 1 rfl) ?_
  refine k_reqS (As := [.int p0]) (rest := []) ⟨hx, hb, hml, hown, hts⟩ (c_X0_requirePlace l hst p0) (va_cwS 1 hts gX0_walk_X0_requirePlace rfl rfl rfl (by decide +kernel) ⟨Nat.le_of_ble_eq_true rfl, Nat.le_of_ble_eq_true rfl⟩) k_ex_bl (k_ex_of hex) rfl hl.1 rfl (Nat.le_of_ble_eq_true rfl) dX0_walk_1 ⟨Nat.le_of_ble_eq_true rfl, Nat.le_of_ble_eq_true rfl⟩ (fun E h => by obtain ⟨rfl, h⟩ := h; rw [cd2_1 h]; exact List.mem_cons_self) ht hlocks (Nat.le_of_ble_eq_true rfl) (Nat.le_of_ble_eq_true rfl) (fun c_1 => ?_)
  obtain ⟨p', hp', rfl⟩ := inB_ex (by decide) (c_1)
  refine lv_iload_n hx hb dX0_walk_4 rfl (lv_at hl 2 rfl) ?_
  refine lv_iload_n hx hb dX0_walk_5 rfl (lv_at hl 3 rfl) ?_
  refine k_reqS (As := [.int t, .int m0]) (rest := []) ⟨hx, hb, hml, hown, hts⟩ (c_X0_requireText l hst t m0) (va_cwS 2 hts gX0_walk_X0_requireText rfl rfl rfl (by decide +kernel) ⟨Nat.le_of_ble_eq_true rfl, Nat.le_of_ble_eq_true rfl⟩) k_ex_bl (k_ex_of hex) rfl hl.1 rfl (Nat.le_of_ble_eq_true rfl) dX0_walk_6 ⟨Nat.le_of_ble_eq_true rfl, Nat.le_of_ble_eq_true rfl⟩ (fun E h => by obtain ⟨rfl, h⟩ := h; rw [cd2_2 c_1 h]; exact List.mem_cons_of_mem _ List.mem_cons_self) ht hlocks (Nat.le_of_ble_eq_true rfl) (Nat.le_of_ble_eq_true rfl) (fun c_6 => ?_)
  obtain ⟨t', k, hk1, hk5, htk, rfl, rfl⟩ := txB_ex c_6
  have hp8 := p8_le hk5
  have ht' : t' < 32768 := by omega
  refine lv_iload_n hx hb dX0_walk_9 rfl (lv_at hl 2 rfl) ?_
  refine lv_iload_n hx hb dX0_walk_10 rfl (lv_at hl 3 rfl) ?_
  refine k_callSi (As := [.int (nI t'), .int (nI k)]) (rest := []) ⟨hx, hb, hml, hown, hts⟩ (c_X0_pack l t' k (by omega) (by omega)) (va_cwS 2 hts gX0_walk_X0_pack rfl rfl rfl (by decide +kernel) ⟨Nat.le_of_ble_eq_true rfl, Nat.le_of_ble_eq_true rfl⟩) k_bl_tt (fun _ _ _ => trivial) rfl hl.1 rfl (Nat.le_of_ble_eq_true rfl) dX0_walk_11 ⟨Nat.le_of_ble_eq_true rfl, Nat.le_of_ble_eq_true rfl⟩ ?_
  refine lv_istore (lv' := [(4, .int (nI (32768 * k + t'))), (0, .ref (q 0)), (1, .int (nI p')), (2, .int (nI t')), (3, .int (nI k))]) hx hb dX0_walk_14 hl (by decide) rfl (fun ls hl => ?_)
  refine lv_iload hx hb dX0_walk_16 (lv_at hl 0 rfl) ?_
  refine lv_aload_n hx hb dX0_walk_18 rfl (lv_at hl 1 rfl) ?_
  refine va_get (D := D) (ci := 0) (v := .int kg) (C := RX0) (T := TX0) (N := 10) hx hb hts hin hown hK hP 0 rfl rfl 8 (by decide) (hts (.fieldLink RX0 35 "SignRail" "keptGoal" "I") (by decide +kernel)) (fun _ h9 => h9) rfl dX0_walk_19 ?_
  refine lv_icmp_eq (tgt := 40) hx hb dX0_walk_22 (by decide) (fun c_22 => ?_) (fun c_22 => ?_)
  · refine lv_aload_n hx hb dX0_walk_40 rfl (lv_at hl 1 rfl) ?_
    refine va_get (D := D) (ci := 0) (v := .ref (q 8)) (C := RX0) (T := TX0) (N := 10) hx hb hts hin hown hK hP 0 rfl rfl 9 (by decide) (hts (.fieldLink RX0 39 "SignRail" "keptSteps" "[I") (by decide +kernel)) (fun _ h9 => h9) rfl dX0_walk_41 ?_
    refine lv_iload_n hx hb dX0_walk_44 rfl (lv_at hl 2 rfl) ?_
    refine n_iald hx hb hK hP 8 0 rfl rfl (k := p') (by omega) (Nat.le_of_ble_eq_true rfl) dX0_walk_45 ?_
    refine lv_bipush (v := (-2)) hx hb dX0_walk_46 (by decide) ?_
    refine lv_icmp_ne (tgt := 64) hx hb dX0_walk_48 (by decide) (fun c_48 => ?_) (fun c_48 => ?_)
    · refine lv_aload_n hx hb dX0_walk_64 rfl (lv_at hl 1 rfl) ?_
      refine va_get (D := D) (ci := 0) (v := .ref (q 8)) (C := RX0) (T := TX0) (N := 10) hx hb hts hin hown hK hP 0 rfl rfl 9 (by decide) (hts (.fieldLink RX0 39 "SignRail" "keptSteps" "[I") (by decide +kernel)) (fun _ h9 => h9) rfl dX0_walk_65 ?_
      refine lv_iload_n hx hb dX0_walk_68 rfl (lv_at hl 2 rfl) ?_
      refine n_iald hx hb hK hP 8 0 rfl rfl (k := p') (by omega) (Nat.le_of_ble_eq_true rfl) dX0_walk_69 ?_
      refine lv_as (y := sa (toldC sh ct ds K k t') Ld (arrC NK NT k t') 31 0 p' tk0) ((hKp k t' hk1 hk5 htk c_22.symm p' hp').resolve_left c_48) ?_
      exact vx_ret (k_wiret ((p', t', k), kg, ks)  hx hb hr hlocks dX0_walk_70 (⟨cd2_0 c_1 c_6, hp', rfl, hk1, hk5, htk, rfl, rfl, hKp⟩) rfl hP hS (Nat.le_of_ble_eq_true rfl) (Nat.le_of_ble_eq_true rfl))
    · refine lv_aload_n hx hb dX0_walk_51 rfl (lv_at hl 1 rfl) ?_
      refine va_get (D := D) (ci := 0) (v := .ref (q 8)) (C := RX0) (T := TX0) (N := 10) hx hb hts hin hown hK hP 0 rfl rfl 9 (by decide) (hts (.fieldLink RX0 39 "SignRail" "keptSteps" "[I") (by decide +kernel)) (fun _ h9 => h9) rfl dX0_walk_52 ?_
      refine lv_iload_n hx hb dX0_walk_55 rfl (lv_at hl 2 rfl) ?_
      refine lv_aload_n hx hb dX0_walk_56 rfl (lv_at hl 1 rfl) ?_
      refine lv_iload_n hx hb dX0_walk_57 rfl (lv_at hl 2 rfl) ?_
      refine lv_iload hx hb dX0_walk_58 (lv_at hl 0 rfl) ?_
      refine k_callVi (As := [.int (nI p'), .int (nI (32768 * k + t'))]) (rest := [.int (nI p'), .ref (q 8)]) ⟨hx, hb, hml, hown, hts⟩ (c_X0_stepsToArrive l D cI q sh sp ld nm tx ds ct co kg ks p' hp' t' k ht' hk5 T K Ld hG hLd hsh NT NK hN) (cwV 2 hts gX0_walk_X0_stepsToArrive rfl rfl rfl (by decide +kernel) ⟨Nat.le_of_ble_eq_true rfl, Nat.le_of_ble_eq_true rfl⟩) k_B_bl (k_B_of hP hK) (va_recv hK hP (ci := 0) (q0 := 0) rfl rfl) rfl hl.1 rfl (Nat.le_of_ble_eq_true rfl) dX0_walk_60 ⟨Nat.le_of_ble_eq_true rfl, Nat.le_of_ble_eq_true rfl⟩ ?_
      refine n_iast hx hb hK hP hD hS 8 0 rfl rfl (k := p') (by omega) (Nat.le_of_ble_eq_true rfl) dX0_walk_63 (fun H locs hP hD hS => ?_)
      have hP : va_P D vwCl (wx cI q sh sp ld nm tx ds ct co kg (upd ks p' (sa (toldC sh ct ds K k t') Ld (arrC NK NT k t') 31 0 p' tk0))) H := hP
      have hD : va_D _ (wx cI q sh sp ld nm tx ds ct co kg (upd ks p' (sa (toldC sh ct ds K k t') Ld (arrC NK NT k t') 31 0 p' tk0))) := hD
      refine lv_aload_n hx hb dX0_walk_64 rfl (lv_at hl 1 rfl) ?_
      refine va_get (D := D) (ci := 0) (v := .ref (q 8)) (C := RX0) (T := TX0) (N := 10) hx hb hts hin hown hK hP 0 rfl rfl 9 (by decide) (hts (.fieldLink RX0 39 "SignRail" "keptSteps" "[I") (by decide +kernel)) (fun _ h9 => h9) rfl dX0_walk_65 ?_
      refine lv_iload_n hx hb dX0_walk_68 rfl (lv_at hl 2 rfl) ?_
      refine n_iald hx hb hK hP 8 0 rfl rfl (k := p') (by omega) (Nat.le_of_ble_eq_true rfl) dX0_walk_69 ?_
      refine lv_as (y := sa (toldC sh ct ds K k t') Ld (arrC NK NT k t') 31 0 p' tk0) (pk_us) ?_
      exact vx_ret (k_wiret ((p', t', k), kg, upd ks p' (sa (toldC sh ct ds K k t') Ld (arrC NK NT k t') 31 0 p' tk0))  hx hb hr hlocks dX0_walk_70 (⟨cd2_0 c_1 c_6, hp', rfl, hk1, hk5, htk, rfl, rfl, kp_upd (sf := fun gk gt p => sa (toldC sh ct ds K gk gt) Ld (arrC NK NT gk gt) 31 0 p tk0) hk5 htk c_22.symm (fun v hv _ => hKp k t' hk1 hk5 htk c_22.symm v hv)⟩) rfl hP hS (Nat.le_of_ble_eq_true rfl) (Nat.le_of_ble_eq_true rfl))
  · refine lv_aload_n hx hb dX0_walk_25 rfl (lv_at hl 1 rfl) ?_
    refine lv_iload hx hb dX0_walk_26 (lv_at hl 0 rfl) ?_
    refine va_put (D := D) (ci := 0) (v := .int (nI (32768 * k + t'))) (ty := .int) (C := RX0) (T := TX0) (N := 10) hx hb hts hin tyX0 tyX0_ok nmX0 hown hK hP hD hS 0 rfl rfl 8 (by decide) (hts (.fieldLink RX0 35 "SignRail" "keptGoal" "I") (by decide +kernel)) (fun _ h9 => h9) rfl (by decide +kernel) (rfl) (rfl) (Nat.le_of_ble_eq_true rfl) dX0_walk_28 (fun H locs hP hD hS => ?_)
    have hP : va_P D vwCl (wx cI q sh sp ld nm tx ds ct co (nI (32768 * k + t')) ks) H := hP
    have hD : va_D _ (wx cI q sh sp ld nm tx ds ct co (nI (32768 * k + t')) ks) := hD
    refine lv_aload_n hx hb dX0_walk_31 rfl (lv_at hl 1 rfl) ?_
    refine va_get (D := D) (ci := 0) (v := .ref (q 8)) (C := RX0) (T := TX0) (N := 10) hx hb hts hin hown hK hP 0 rfl rfl 9 (by decide) (hts (.fieldLink RX0 39 "SignRail" "keptSteps" "[I") (by decide +kernel)) (fun _ h9 => h9) rfl dX0_walk_32 ?_
    refine lv_bipush (v := (-2)) hx hb dX0_walk_35 (by decide) ?_
    refine k_callSW (wr := (wx cI q sh sp ld nm tx ds ct co (nI (32768 * k + t')) ks).take 8) (As := [.ref (q 8), .int (-2)]) (rest := []) ⟨hx, hb, hml, hown, hts⟩ (c_fill l D cI (q 8) 8 ks (-2) (by decide)) (va_cwS 2 hts gX0_walk_J7_fill_53178 rfl rfl rfl (by decide +kernel) ⟨Nat.le_of_ble_eq_true rfl, Nat.le_of_ble_eq_true rfl⟩) k_B_bl (k_B_of (hP.sub [8] rfl) hK) rfl hl.1 rfl (Nat.le_of_ble_eq_true rfl) dX0_walk_37 ⟨Nat.le_of_ble_eq_true rfl, Nat.le_of_ble_eq_true rfl⟩ hP hD hS [0, 1, 2, 3, 4, 5, 6, 7] [8] rfl rfl (fun _ => rfl) (fun u_37 H locs hu_37 hP hD hS hsz hkp => ?_)
    have hP : va_P D vwCl (wx cI q sh sp ld nm tx ds ct co (nI (32768 * k + t')) (fa_fill (fun _ => (-2)) ks 8)) H := hP
    have hD : va_D _ (wx cI q sh sp ld nm tx ds ct co (nI (32768 * k + t')) (fa_fill (fun _ => (-2)) ks 8)) := hD
    refine lv_aload_n hx hb dX0_walk_40 rfl (lv_at hl 1 rfl) ?_
    refine va_get (D := D) (ci := 0) (v := .ref (q 8)) (C := RX0) (T := TX0) (N := 10) hx hb hts hin hown hK hP 0 rfl rfl 9 (by decide) (hts (.fieldLink RX0 39 "SignRail" "keptSteps" "[I") (by decide +kernel)) (fun _ h9 => h9) rfl dX0_walk_41 ?_
    refine lv_iload_n hx hb dX0_walk_44 rfl (lv_at hl 2 rfl) ?_
    refine n_iald hx hb hK hP 8 0 rfl rfl (k := p') (by omega) (Nat.le_of_ble_eq_true rfl) dX0_walk_45 ?_
    refine lv_bipush (v := (-2)) hx hb dX0_walk_46 (by decide) ?_
    refine lv_icmp_ne (tgt := 64) hx hb dX0_walk_48 (by decide) (fun c_48 => ?_) (fun c_48 => ?_)
    · exact absurd (fa_fill_in hp') c_48
    · refine lv_aload_n hx hb dX0_walk_51 rfl (lv_at hl 1 rfl) ?_
      refine va_get (D := D) (ci := 0) (v := .ref (q 8)) (C := RX0) (T := TX0) (N := 10) hx hb hts hin hown hK hP 0 rfl rfl 9 (by decide) (hts (.fieldLink RX0 39 "SignRail" "keptSteps" "[I") (by decide +kernel)) (fun _ h9 => h9) rfl dX0_walk_52 ?_
      refine lv_iload_n hx hb dX0_walk_55 rfl (lv_at hl 2 rfl) ?_
      refine lv_aload_n hx hb dX0_walk_56 rfl (lv_at hl 1 rfl) ?_
      refine lv_iload_n hx hb dX0_walk_57 rfl (lv_at hl 2 rfl) ?_
      refine lv_iload hx hb dX0_walk_58 (lv_at hl 0 rfl) ?_
      refine k_callVi (As := [.int (nI p'), .int (nI (32768 * k + t'))]) (rest := [.int (nI p'), .ref (q 8)]) ⟨hx, hb, hml, hown, hts⟩ (c_X0_stepsToArrive l D cI q sh sp ld nm tx ds ct co (nI (32768 * k + t')) (fa_fill (fun _ => (-2)) ks 8) p' hp' t' k ht' hk5 T K Ld hG hLd hsh NT NK hN) (cwV 2 hts gX0_walk_X0_stepsToArrive rfl rfl rfl (by decide +kernel) ⟨Nat.le_of_ble_eq_true rfl, Nat.le_of_ble_eq_true rfl⟩) k_B_bl (k_B_of hP hK) (va_recv hK hP (ci := 0) (q0 := 0) rfl rfl) rfl hl.1 rfl (Nat.le_of_ble_eq_true rfl) dX0_walk_60 ⟨Nat.le_of_ble_eq_true rfl, Nat.le_of_ble_eq_true rfl⟩ ?_
      refine n_iast hx hb hK hP hD hS 8 0 rfl rfl (k := p') (by omega) (Nat.le_of_ble_eq_true rfl) dX0_walk_63 (fun H locs hP hD hS => ?_)
      have hP : va_P D vwCl (wx cI q sh sp ld nm tx ds ct co (nI (32768 * k + t')) (upd (fa_fill (fun _ => (-2)) ks 8) p' (sa (toldC sh ct ds K k t') Ld (arrC NK NT k t') 31 0 p' tk0))) H := hP
      have hD : va_D _ (wx cI q sh sp ld nm tx ds ct co (nI (32768 * k + t')) (upd (fa_fill (fun _ => (-2)) ks 8) p' (sa (toldC sh ct ds K k t') Ld (arrC NK NT k t') 31 0 p' tk0))) := hD
      refine lv_aload_n hx hb dX0_walk_64 rfl (lv_at hl 1 rfl) ?_
      refine va_get (D := D) (ci := 0) (v := .ref (q 8)) (C := RX0) (T := TX0) (N := 10) hx hb hts hin hown hK hP 0 rfl rfl 9 (by decide) (hts (.fieldLink RX0 39 "SignRail" "keptSteps" "[I") (by decide +kernel)) (fun _ h9 => h9) rfl dX0_walk_65 ?_
      refine lv_iload_n hx hb dX0_walk_68 rfl (lv_at hl 2 rfl) ?_
      refine n_iald hx hb hK hP 8 0 rfl rfl (k := p') (by omega) (Nat.le_of_ble_eq_true rfl) dX0_walk_69 ?_
      refine lv_as (y := sa (toldC sh ct ds K k t') Ld (arrC NK NT k t') 31 0 p' tk0) (pk_us) ?_
      exact vx_ret (k_wiret ((p', t', k), nI (32768 * k + t'), upd (fa_fill (fun _ => (-2)) ks 8) p' (sa (toldC sh ct ds K k t') Ld (arrC NK NT k t') 31 0 p' tk0))  hx hb hr hlocks dX0_walk_70 (⟨cd2_0 c_1 c_6, hp', rfl, hk1, hk5, htk, rfl, rfl, kp_upd (sf := fun gk gt p => sa (toldC sh ct ds K gk gt) Ld (arrC NK NT gk gt) 31 0 p tk0) hk5 htk rfl (fun v hv _ => Or.inl (fa_fill_in hv))⟩) rfl hP hS (Nat.le_of_ble_eq_true rfl) (Nat.le_of_ble_eq_true rfl))
