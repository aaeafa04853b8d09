set_option maxHeartbeats 4000000 in
set_option maxRecDepth 100000 in
theorem c_X0_forgetWalks (l : Launch) (D : va_G) (cI : ClassId) (q : Nat → Nat) (sh sp ld nm tx ds ct : Nat → Int32) (co : Int64) (kg : Int32) (ks : Nat → Int32) (hDt : va_D (fun _ => True) (wx cI q sh sp ld nm tx ds ct co kg ks)) : Met l yX0_forgetWalks wsX0_forgetWalks ({ frames := 0, cells := 0, slots := 0, locals := 0 } : Room) (k_P [.ref (q 0)] (k_B D (wx cI q sh sp ld nm tx ds ct co kg ks) [(cI, .int)])) (k_WQ D (wx cI q sh sp ld nm tx ds ct co kg ks) (fun u : Unit => True) (fun u => wx cI q sh sp ld nm tx ds ct co (nI 0) ks) (fun u => none)) 0 0 (k_A (wx cI q sh sp ld nm tx ds ct co kg ks)) := by
  refine k_head (cc := cX0_forgetWalks) (maxL := 1) (ret := none) [(0, .ref (q 0))] (by decide) rfl (Nat.le_of_ble_eq_true rfl) rfl ?_
  intro p e s m below meth c ls hx hb hr hml hown hts hlocks hname hB hl
  have hown : s.vm.findClass RX0 = some m.cls := hown
  obtain ⟨hP, hK⟩ := hB
  have hin : ∀ w ∈ wsX00, w ∈ wsX0_forgetWalks := fun w h => List.mem_cons_of_mem _ (List.mem_append_right _ h)
  have hD := k_A_D hDt
  have hS : va_S (k_A (wx cI q sh sp ld nm tx ds ct co kg ks)) s.heap s.heap [] := va_S.rf
  refine lv_aload_n hx hb dX0_forgetWalks_0 rfl (lv_at hl 0 rfl) ?_
  refine lv_iconst (v := nI 0) hx hb dX0_forgetWalks_1 (by decide) ?_
  refine va_put (D := D) (ci := 0) (v := .int (nI 0)) (ty := .int) (C := RX0) (T := TX0) (N := 10) hx hb hts hin tyX0 tyX0_ok nmX0 hown hK hP hD hS 0 rfl rfl 8 (by decide) (hts (.fieldLink RX0 35 "SignRail" "keptGoal" "I") (by decide +kernel)) (fun _ h9 => h9) rfl (by decide +kernel) (rfl) (rfl) (Nat.le_of_ble_eq_true rfl) dX0_forgetWalks_2 (fun H locs hP hD hS => ?_)
  have hP : va_P D vwCl (wx cI q sh sp ld nm tx ds ct co (nI 0) ks) H := hP
  have hD : va_D _ (wx cI q sh sp ld nm tx ds ct co (nI 0) ks) := hD
  exact k_wvret (())  hx hb hr hlocks dX0_forgetWalks_5 (trivial) rfl hP hS (Nat.le_of_ble_eq_true rfl) (Nat.le_of_ble_eq_true rfl)
set_option maxHeartbeats 4000000 in
set_option maxRecDepth 100000 in
theorem c_X0_engrave (l : Launch) (D : va_G) (cI : ClassId) (q : Nat → Nat) (sh sp ld nm tx ds ct : Nat → Int32) (co : Int64) (kg : Int32) (ks : Nat → Int32) (w t k : Nat) (hw : w < 32) (ht : t < 32768) (hk : k ≤ 5) (htx : tx w = nI (32768 * k + t)) (pv : Int32) (hDt : va_D (fun _ => True) (wx cI q sh sp ld nm tx ds ct co kg ks)) : Met l yX0_engrave wsX0_engrave ({ frames := 1, cells := 0, slots := 0, locals := 21 } : Room) (k_P [.ref (q 0), .int (nI w), .int pv] (k_B D (wx cI q sh sp ld nm tx ds ct co kg ks) [(cI, .int)])) (k_WQ D (wx cI q sh sp ld nm tx ds ct co kg ks) (fun u : Unit => True) (fun u => wx cI q sh sp ld nm tx ds (engF sh ct w t k) (co + pv.toInt64) kg ks) (fun u => none)) 0 0 (k_A (wx cI q sh sp ld nm tx ds ct co kg ks)) := by
  refine k_head (cc := cX0_engrave) (maxL := 5) (ret := none) [(0, .ref (q 0)), (1, .int (nI w)), (2, .int pv)] (by decide) rfl (Nat.le_of_ble_eq_true rfl) rfl ?_
  intro p e s m below meth c ls hx hb hr hml hown hts hlocks hname hB hl
  have hown : s.vm.findClass RX0 = some m.cls := hown
  obtain ⟨hP, hK⟩ := hB
  have hin : ∀ w ∈ wsX00, w ∈ wsX0_engrave := fun w h => List.mem_cons_of_mem _ (List.mem_append_right _ h)
  have hD := k_A_D hDt
  have hS : va_S (k_A (wx cI q sh sp ld nm tx ds ct co kg ks)) s.heap s.heap [] := va_S.rf
  refine lv_aload_n hx hb dX0_engrave_0 rfl (lv_at hl 0 rfl) ?_
  refine va_get (D := D) (ci := 0) (v := .ref (q 5)) (C := RX0) (T := TX0) (N := 10) hx hb hts hin hown hK hP 0 rfl rfl 4 (by decide) (hts (.fieldLink RX0 22 "SignRail" "signTexts" "[I") (by decide +kernel)) (fun _ h9 => h9) rfl dX0_engrave_1 ?_
  refine lv_iload_n hx hb dX0_engrave_4 rfl (lv_at hl 1 rfl) ?_
  refine n_iald hx hb hK hP 5 0 rfl rfl (k := w) (by omega) (Nat.le_of_ble_eq_true rfl) dX0_engrave_5 ?_
  refine lv_as (y := nI (32768 * k + t)) (htx) ?_
  refine lv_istore_n (lv' := [(3, .int (nI (32768 * k + t))), (0, .ref (q 0)), (1, .int (nI w)), (2, .int pv)]) hx hb dX0_engrave_6 rfl hl (by decide) rfl (fun ls hl => ?_)
  refine lv_iconst (v := nI 0) hx hb dX0_engrave_7 (by decide) ?_
  refine lv_istore (lv' := [(4, .int (nI 0)), (3, .int (nI (32768 * k + t))), (0, .ref (q 0)), (1, .int (nI w)), (2, .int pv)]) hx hb dX0_engrave_8 hl (by decide) rfl (fun ls hl => ?_)
  refine W.loopH (fun i H locs ls => va_P D vwCl (wx cI q sh sp ld nm tx ds (engF sh ct w t i) co kg ks) H ∧ va_D (k_A (wx cI q sh sp ld nm tx ds ct co kg ks)) (wx cI q sh sp ld nm tx ds (engF sh ct w t i) co kg ks) ∧ va_S (k_A (wx cI q sh sp ld nm tx ds ct co kg ks)) s.heap H locs ∧ lv_has ls 5 [(0, .ref (q 0)), (1, .int (nI w)), (2, .int pv), (3, .int (nI (32768 * k + t))), (4, .int (nI i))]) (k) (0) (by omega) ⟨hP, hD, hS, lv_sub hl [2, 3, 4, 1, 0] rfl⟩ ?_
  intro i H locs ls hi_10 hI_10 ih_10
  obtain ⟨hP, hD, hS, hl⟩ := hI_10
  refine lv_iload hx hb dX0_engrave_10 (lv_at hl 4 rfl) ?_
  refine lv_iload_n hx hb dX0_engrave_12 rfl (lv_at hl 3 rfl) ?_
  refine k_callSi (As := [.int (nI (32768 * k + t))]) (rest := [.int (nI i)]) ⟨hx, hb, hml, hown, hts⟩ (c_X0_manyOf l t k (by omega) (by omega)) (va_cwS 1 hts gX0_engrave_X0_manyOf rfl rfl rfl (by decide +kernel) ⟨Nat.le_of_ble_eq_true rfl, Nat.le_of_ble_eq_true rfl⟩) k_bl_tt (fun _ _ _ => trivial) rfl hl.1 rfl (Nat.le_of_ble_eq_true rfl) dX0_engrave_13 ⟨Nat.zero_le _, Nat.zero_le _⟩ ?_
  refine n_icmp_ge (tgt := 47) hx hb dX0_engrave_16 (by decide) (by omega) (by omega) (fun c_16 => ?_) (fun c_16 => ?_)
  · have hik : i = k := by omega
    subst hik
    refine lv_aload_n hx hb dX0_engrave_47 rfl (lv_at hl 0 rfl) ?_
    refine lv_dup hx hb dX0_engrave_48 rfl ?_
    refine va_get (D := D) (ci := 0) (v := .long co) (C := RX0) (T := TX0) (N := 10) hx hb hts hin hown hK hP 0 rfl rfl 7 (by decide) (hts (.fieldLink RX0 31 "SignRail" "costSoFar" "J") (by decide +kernel)) (fun _ h9 => h9) rfl dX0_engrave_49 ?_
    refine lv_iload_n hx hb dX0_engrave_52 rfl (lv_at hl 2 rfl) ?_
    refine lv_i2l (v := pv.toInt64) hx hb dX0_engrave_53 rfl ?_
    refine lv_ladd hx hb dX0_engrave_54 ?_
    refine va_put (D := D) (ci := 0) (v := .long (co + pv.toInt64)) (ty := .long) (C := RX0) (T := TX0) (N := 10) hx hb hts hin tyX0 tyX0_ok nmX0 hown hK hP hD hS 0 rfl rfl 7 (by decide) (hts (.fieldLink RX0 31 "SignRail" "costSoFar" "J") (by decide +kernel)) (fun _ h9 => h9) rfl (by decide +kernel) (rfl) (rfl) (Nat.le_of_ble_eq_true rfl) dX0_engrave_55 (fun H locs hP hD hS => ?_)
    have hP : va_P D vwCl (wx cI q sh sp ld nm tx ds (engF sh ct w t i) (co + pv.toInt64) kg ks) H := hP
    have hD : va_D _ (wx cI q sh sp ld nm tx ds (engF sh ct w t i) (co + pv.toInt64) kg ks) := hD
    exact k_wvret (())  hx hb hr hlocks dX0_engrave_58 (trivial) rfl hP hS (Nat.le_of_ble_eq_true rfl) (Nat.le_of_ble_eq_true rfl)
  · refine lv_aload_n hx hb dX0_engrave_19 rfl (lv_at hl 0 rfl) ?_
    refine va_get (D := D) (ci := 0) (v := .ref (q 7)) (C := RX0) (T := TX0) (N := 10) hx hb hts hin hown hK hP 0 rfl rfl 6 (by decide) (hts (.fieldLink RX0 28 "SignRail" "signShapes" "[I") (by decide +kernel)) (fun _ h9 => h9) rfl dX0_engrave_20 ?_
    refine lv_iload_n hx hb dX0_engrave_23 rfl (lv_at hl 1 rfl) ?_
    refine lv_iconst (v := nI 5) hx hb dX0_engrave_24 (by decide) ?_
    refine lv_imul hx hb dX0_engrave_25 ?_
    refine lv_as (y := nI (w * 5)) (pk_mul _ _) ?_
    refine lv_iload hx hb dX0_engrave_26 (lv_at hl 4 rfl) ?_
    refine lv_iadd hx hb dX0_engrave_28 ?_
    refine lv_as (y := nI ((w * 5) + i)) (nI_add _ _) ?_
    refine lv_aload_n hx hb dX0_engrave_29 rfl (lv_at hl 0 rfl) ?_
    refine va_get (D := D) (ci := 0) (v := .ref (q 1)) (C := RX0) (T := TX0) (N := 10) hx hb hts hin hown hK hP 0 rfl rfl 0 (by decide) (hts (.fieldLink RX0 9 "SignRail" "shapes" "[I") (by decide +kernel)) (fun _ h9 => h9) rfl dX0_engrave_30 ?_
    refine lv_iload_n hx hb dX0_engrave_33 rfl (lv_at hl 3 rfl) ?_
    refine lv_iload hx hb dX0_engrave_34 (lv_at hl 4 rfl) ?_
    refine k_callSi (As := [.int (nI (32768 * k + t)), .int (nI i)]) (rest := [.ref (q 1), .int (nI ((w * 5) + i)), .ref (q 7)]) ⟨hx, hb, hml, hown, hts⟩ (c_X0_glyphAt l t k i (by omega) (by omega) (by omega)) (va_cwS 2 hts gX0_engrave_X0_glyphAt rfl rfl rfl (by decide +kernel) ⟨Nat.le_of_ble_eq_true rfl, Nat.le_of_ble_eq_true rfl⟩) k_bl_tt (fun _ _ _ => trivial) rfl hl.1 rfl (Nat.le_of_ble_eq_true rfl) dX0_engrave_36 ⟨Nat.zero_le _, Nat.zero_le _⟩ ?_
    refine n_iald hx hb hK hP 1 0 rfl rfl (k := (dg t i)) (dg_lt _ _) (Nat.le_of_ble_eq_true rfl) dX0_engrave_39 ?_
    refine n_iast hx hb hK hP hD hS 7 0 rfl rfl (k := ((w * 5) + i)) (by omega) (Nat.le_of_ble_eq_true rfl) dX0_engrave_40 (fun H locs hP hD hS => ?_)
    have hP : va_P D vwCl (wx cI q sh sp ld nm tx ds (upd (engF sh ct w t i) ((w * 5) + i) (sh (dg t i))) co kg ks) H := hP
    have hD : va_D _ (wx cI q sh sp ld nm tx ds (upd (engF sh ct w t i) ((w * 5) + i) (sh (dg t i))) co kg ks) := hD
    refine lv_iinc (v := nI (i + 1)) (lv' := [(4, .int (nI (i + 1))), (0, .ref (q 0)), (1, .int (nI w)), (2, .int pv), (3, .int (nI (32768 * k + t)))]) hx hb dX0_engrave_41 hl (k := 4) rfl (nI_inc _) (by decide) rfl (fun ls hl => ?_)
    refine lv_goto (tgt := 10) hx hb dX0_engrave_44 (by decide) ?_
    exact ih_10 _ _ _ (by omega) ⟨hP, hD, hS, lv_sub hl [1, 2, 3, 4, 0] rfl⟩
set_option maxHeartbeats 4000000 in
set_option maxRecDepth 100000 in
theorem c_fill (l : Launch) (D : va_G) (cA : ClassId) (a n : Nat) (f : Nat → Int32) (x : Int32) (hn : n < 2 ^ 31) : Met l yJ7_fill_53178 wsJ7_fill_53178 ({ frames := 0, cells := 0, slots := 0, locals := 0 } : Room) (k_P [.ref a, .int x] (k_B D [(a, .inl (cA, n, .inl f))] [(cA, .int)])) (k_WQ D [(a, .inl (cA, n, .inl f))] (fun _ : Unit => True) (fun _ => [(a, .inl (cA, n, .inl (fa_fill (fun _ => x) f n)))]) (fun _ => none)) 0 0 (k_A [(a, .inl (cA, n, .inl f))]) := by
  refine k_head (cc := cJ7_fill_53178) (maxL := 4) (ret := none) [(0, .ref a), (1, .int x)] (by decide) rfl (Nat.le_of_ble_eq_true rfl) rfl ?_
  intro p e s m below meth c ls hx hb hr hml hown hts hlocks hname hB hl
  obtain ⟨hP, hK⟩ := hB
  have hD : va_D (k_A [(a, .inl (cA, n, .inl f))]) [(a, .inl (cA, n, .inl f))] := by
    refine ⟨fun i j p q hi hj _ => ?_, fun k q hk => ⟨k, q.2, hk⟩⟩
    have h1 : i < 1 := (List.getElem?_eq_some_iff.mp hi).1
    have h2 : j < 1 := (List.getElem?_eq_some_iff.mp hj).1
    omega
  have hS : va_S (k_A [(a, .inl (cA, n, .inl f))]) s.heap s.heap [] := va_S.rf
  refine lv_iconst (v := nI 0) hx hb dJ7_fill_53178_0 (by decide) ?_
  refine lv_istore_n (lv' := [(2, .int (nI 0)), (0, .ref a), (1, .int x)]) hx hb dJ7_fill_53178_1 rfl hl (by decide) rfl (fun ls hl => ?_)
  refine lv_aload_n hx hb dJ7_fill_53178_2 rfl (lv_at hl 1 rfl) ?_
  refine va_alen hx hb hK hP 0 0 rfl rfl (v := nI n) rfl dJ7_fill_53178_3 ?_
  refine lv_istore_n (lv' := [(3, .int (nI n)), (2, .int (nI 0)), (0, .ref a), (1, .int x)]) hx hb dJ7_fill_53178_4 rfl hl (by decide) rfl (fun ls hl => ?_)
  refine W.loopH (fun i H locs ls => va_P D vwCl [(a, .inl (cA, n, .inl (fa_fill (fun _ => x) f i)))] H ∧ va_D (k_A [(a, .inl (cA, n, .inl f))]) [(a, .inl (cA, n, .inl (fa_fill (fun _ => x) f i)))] ∧ va_S (k_A [(a, .inl (cA, n, .inl f))]) s.heap H locs ∧ lv_has ls 4 [(0, .ref a), (1, .int x), (2, .int (nI i)), (3, .int (nI n))]) n 0 (Nat.zero_le _) ⟨by rw [fa_fill_0]; exact hP, by rw [fa_fill_0]; exact hD, hS, lv_sub hl [2, 3, 1, 0] rfl⟩ ?_
  intro i H locs ls hi hI ih
  obtain ⟨hP, hD, hS, hl⟩ := hI
  refine lv_iload_n hx hb dJ7_fill_53178_5 rfl (lv_at hl 2 rfl) ?_
  refine lv_iload_n hx hb dJ7_fill_53178_6 rfl (lv_at hl 3 rfl) ?_
  refine n_icmp_ge (tgt := 20) hx hb dJ7_fill_53178_7 (by decide) (by omega) (by omega) (fun c7 => ?_) (fun c7 => ?_)
  · have e : i = n := by omega
    subst e
    exact k_wvret () hx hb hr hlocks dJ7_fill_53178_20 trivial rfl hP hS (Nat.le_of_ble_eq_true rfl) (Nat.le_of_ble_eq_true rfl)
  · refine lv_aload_n hx hb dJ7_fill_53178_10 rfl (lv_at hl 0 rfl) ?_
    refine lv_iload_n hx hb dJ7_fill_53178_11 rfl (lv_at hl 2 rfl) ?_
    refine lv_iload_n hx hb dJ7_fill_53178_12 rfl (lv_at hl 1 rfl) ?_
    refine n_iast hx hb hK hP hD hS 0 0 rfl rfl (k := i) c7 hn dJ7_fill_53178_13 (fun H locs hP hD hS => ?_)
    refine lv_iinc (v := nI (i + 1)) (lv' := [(2, .int (nI (i + 1))), (0, .ref a), (1, .int x), (3, .int (nI n))]) hx hb dJ7_fill_53178_14 hl (k := 2) rfl (nI_inc _) (by decide) rfl (fun ls hl => ?_)
    refine lv_goto (tgt := 5) hx hb dJ7_fill_53178_17 (by decide) ?_
    refine ih _ _ _ c7 ⟨?_, ?_, hS, lv_sub hl [1, 2, 0, 3] rfl⟩
    · rw [← fa_fill_succ]; exact hP
    · rw [← fa_fill_succ]; exact hD
