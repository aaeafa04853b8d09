set_option maxHeartbeats 4000000 in
set_option maxRecDepth 100000 in
theorem lo_remake {p : Program} {l : Launch} {e : Env} {s : State} {m : MethodId} {below : List Frame} {meth : Method} {c : Code} {b L : Nat} {xs : Nat → Int32} {Q : State → Prop} {D : va_G} {cI cI2 cZ cJ : ClassId} {q q2 : Nat → Nat} {o : Nat} (hC : lwC p l s m meth c b L xs D cI cI2 cZ cJ) {i : Nat} (hi : i + 7 ≤ L) {cells slots : Nat} (hcc : cells + 8 ≤ room_1.cells) (hss : slots + 48 ≤ room_1.slots) {H : Heap} {locs : List Loc} (hI : lwI D cI q cI2 cZ q2 o cJ s H locs) {ls : Array Slot} (hl : lv_has ls 7 (lwL b q q2 o i)) (hk : ∀ (H : Heap) (locs : List Loc) (ls : Array Slot), lwI D cI q cI2 cZ q2 o cJ s H locs → lv_has ls 7 (lwL b q q2 o i) → W p l e room_1 s m #[Value.ref b] below meth c H locs (cells + 8) (slots + 48) Q (F0 m 1298 ls [])) : W p l e room_1 s m #[Value.ref b] below meth c H locs cells slots Q (F0 m 920 ls []) := by
  obtain ⟨C0, hst, hex, hnc, hK, hL⟩ := hC
  obtain ⟨hx, hb, hr, hml, hown, hts0, hX, hbl, hlocks, hgv⟩ := id C0
  have hts : ∀ w ∈ wsL_law, w.before #[Value.ref b] s = true := fun w h => hts0 w (wsL_law_in w h)
  have hown : s.vm.findClass RL = some m.cls := hown
  have hbA : ¬ (fun a : Nat => s.heap.size ≤ a) b := Nat.not_le.mpr hbl
  obtain ⟨sh, sp, ld, nm, tx, ds, ct, co, kg, ks, th, nm2, nk, tx2, mn, ct2, st, at0, ha, tk, f, T, K, T2, Ld, NT, NK, hR, hP, hD, hS⟩ := hI
  have hl : lv_has ls 7 [(4, .int (nI i)), (3, .ref o), (2, .ref (q2 0)), (1, .ref (q 0)), (0, .ref b)] := hl
  refine lv_aload_n hx hb dL_law_920 rfl (lv_at hl 3 rfl) ?_
  refine lv_aload_n hx hb dL_law_921 rfl (lv_at hl 1 rfl) ?_
  refine k_callTW (wr := (wm cI2 cZ q2 th sh sp ld nm2 nk tx2 mn ds ct2 co st at0 ha tk)) (As := [.ref (q 0), .ref o]) (rest := []) ⟨hx, hb, hml, hown, hts⟩ (c_L_remake l hst D cI q sh sp ld nm tx ds ct co kg ks T K hR.hG o cJ f (k_D_tt (hD.sub [0, 1, 2, 3, 4, 5, 6, 7, 8, 20] (by decide) rfl))) (vx_cwSW 2 hts gL_law_L_remake rfl rfl rfl (by decide +kernel) ⟨Nat.le_of_ble_eq_true rfl, Nat.le_of_ble_eq_true rfl⟩) (k_en_bl k_B_bl) (fun U hU hW => ⟨k_B_of (hP.sub [0, 1, 2, 3, 4, 5, 6, 7, 8, 20] rfl) (hK.sub [0, 3] rfl) U hU hW, k_ex_mv hex hS (fun a h => Nat.not_le.mpr h) U hU hW, k_nc_of hnc U hW⟩) rfl hl.1 rfl (Nat.le_of_ble_eq_true rfl) dL_law_922 ⟨hcc, hss⟩ hP hD hS [9, 10, 11, 12, 13, 14, 15, 16, 17, 18, 19] [0, 1, 2, 3, 4, 5, 6, 7, 8, 20] rfl rfl (fun u => by cases u <;> rfl) (fun u H locs hu hP hD hS => ?_)
  have hcd : cd1 (!anyB (badR sh sp ct2 T2 K) 32) = cd1 (!anyB (badC sh sp ct T K) 32) := by rw [bad_eq hR.hK hR.hT hR.2.2.2.2.1]
  rcases lw_or0 hu with ⟨rfl, hc⟩ | ⟨u1, rfl, hc, hpx⟩
  · skip
    have hP : va_P D vwCl (wx cI q sh sp ld nm tx ds ct co kg ks ++ wm cI2 cZ q2 th sh sp ld nm2 nk tx2 mn ds ct2 co st at0 ha tk ++ [wo o cJ f]) H := hP.sub [11, 12, 13, 14, 15, 16, 17, 18, 19, 0, 1, 2, 3, 4, 5, 6, 7, 8, 9, 10, 20] rfl
    have hD : va_D _ (wx cI q sh sp ld nm tx ds ct co kg ks ++ wm cI2 cZ q2 th sh sp ld nm2 nk tx2 mn ds ct2 co st at0 ha tk ++ [wo o cJ f]) := hD.sub [11, 12, 13, 14, 15, 16, 17, 18, 19, 0, 1, 2, 3, 4, 5, 6, 7, 8, 9, 10, 20] (by decide) rfl
    refine lv_istore (lv' := [(5, .int (nI (cd1 (!anyB (badC sh sp ct T K) 32)))), (4, .int (nI i)), (3, .ref o), (2, .ref (q2 0)), (1, .ref (q 0)), (0, .ref b)]) hx hb dL_law_925 hl (by decide) rfl (fun ls hl => ?_)
    refine lv_aload_n hx hb dL_law_927 rfl (lv_at hl 3 rfl) ?_
    refine k_callVW (wr := (wx cI q sh sp ld nm tx ds ct co kg ks ++ [wo o cJ f])) (As := []) (rest := []) ⟨hx, hb, hml, hown, hts⟩ (c_X1_remake l D cI2 cZ q2 th sh sp ld nm2 nk tx2 mn ds ct2 co st at0 ha tk T2 K hR.hG2 (k_D_tt (hD.sub [9, 10, 11, 12, 13, 14, 15, 16, 17, 18, 19] (by decide) rfl))) (cwV 0 hts gL_law_X1_remake rfl rfl rfl (by decide +kernel) ⟨Nat.le_of_ble_eq_true rfl, Nat.le_of_ble_eq_true rfl⟩) k_B_bl (k_B_of (hP.sub [9, 10, 11, 12, 13, 14, 15, 16, 17, 18, 19] rfl) (hK.sub [1, 2] rfl)) (va_recv hK hP (ci := 1) (q0 := 9) rfl rfl) rfl hl.1 rfl (Nat.le_of_ble_eq_true rfl) dL_law_928 ⟨hcc, hss⟩ hP hD hS [0, 1, 2, 3, 4, 5, 6, 7, 8, 20] [9, 10, 11, 12, 13, 14, 15, 16, 17, 18, 19] rfl rfl (fun _ => rfl) (fun v H locs hv hP hD hS _ _ => ?_)
    obtain ⟨v1, vo⟩ := v
    obtain ⟨hv1, hv2⟩ := hv
    rcases lw_or0 hv2 with ⟨hvo, hc2⟩ | ⟨v2, hvo, hc2, hv3⟩
    · skip
      have hv1 : v1 = nI (cd1 (!anyB (badR sh sp ct2 T2 K) 32)) := hv1
      have hvo : vo = _ := hvo
      subst hvo
      subst hv1
      have hP : va_P D vwCl (wx cI q sh sp ld nm tx ds ct co kg ks ++ (wm cI2 cZ q2 (nI (cd1 (!anyB (badR sh sp ct2 T2 K) 32))) sh sp ld nm2 nk tx2 mn ds ct2 co st at0 ha tk) ++ [wo o cJ f]) H := hP.sub [0, 1, 2, 3, 4, 5, 6, 7, 8, 10, 11, 12, 13, 14, 15, 16, 17, 18, 19, 20, 9] rfl
      have hD : va_D _ (wx cI q sh sp ld nm tx ds ct co kg ks ++ (wm cI2 cZ q2 (nI (cd1 (!anyB (badR sh sp ct2 T2 K) 32))) sh sp ld nm2 nk tx2 mn ds ct2 co st at0 ha tk) ++ [wo o cJ f]) := hD.sub [0, 1, 2, 3, 4, 5, 6, 7, 8, 10, 11, 12, 13, 14, 15, 16, 17, 18, 19, 20, 9] (by decide) rfl
      refine lv_istore (lv' := [(6, .int (nI 0)), (5, .int (nI (cd1 (!anyB (badC sh sp ct T K) 32)))), (4, .int (nI i)), (3, .ref o), (2, .ref (q2 0)), (1, .ref (q 0)), (0, .ref b)]) hx hb dL_law_931 hl (by decide) rfl (fun ls hl => ?_)
      refine lv_aload_n hx hb dL_law_933 rfl (lv_at hl 4 rfl) ?_
      refine k_callVi (As := []) (rest := []) ⟨hx, hb, hml, hown, hts⟩ (c_X1_thrown l D cI2 cZ q2 (nI (cd1 (!anyB (badR sh sp ct2 T2 K) 32))) sh sp ld nm2 nk tx2 mn ds ct2 co st at0 ha tk) (cwV 0 hts gL_law_X1_thrown rfl rfl rfl (by decide +kernel) ⟨Nat.le_of_ble_eq_true rfl, Nat.le_of_ble_eq_true rfl⟩) k_B_bl (k_B_of (hP.sub [9, 10, 11, 12, 13, 14, 15, 16, 17, 18, 19] rfl) (hK.sub [1, 2] rfl)) (va_recv hK hP (ci := 1) (q0 := 9) rfl rfl) rfl hl.1 rfl (Nat.le_of_ble_eq_true rfl) dL_law_934 ⟨Nat.le_trans (Nat.le_refl _) hcc, Nat.le_trans (Nat.le_refl _) hss⟩ ?_
      refine lv_as (y := nI (cd1 (!anyB (badC sh sp ct T K) 32))) (congrArg nI hcd) ?_
      refine lv_iload hx hb dL_law_937 (lv_at hl 1 rfl) ?_
      refine lv_icmp_eq (tgt := 944) hx hb dL_law_939 (by decide) (fun _ => ?_) (fun h9 => absurd rfl h9)
      refine lv_iload hx hb dL_law_944 (lv_at hl 1 rfl) ?_
      refine n_if_ne (tgt := 961) hx hb dL_law_946 (by decide) (cd1_le _) (fun _ => ?_) (fun h9 => absurd h9 hc)
      refine lv_goto (tgt := 1298) hx hb dL_law_961 (by decide) ?_
      refine hk H locs ls ?_ (lv_sub hl [2, 3, 4, 5, 6] rfl)
      exact lwI_mk (hR) hP hD hS
    · exact absurd (hcd.symm.trans hc2) hc
  · skip
    obtain ⟨a1, a2, a3⟩ := u1
    have hp1 := hpx
    have hp1 : rmF sh (pltC sh sp T K) T K ct co 32 = (a1, a2, a3) := hp1
    have hP : va_P D vwCl (wx cI q sh sp ld nm tx ds a1 a2 (nI 0) ks ++ wm cI2 cZ q2 th sh sp ld nm2 nk tx2 mn ds ct2 co st at0 ha tk ++ [wo o cJ (vp_updL f 0 (a3.toInt64))]) H := hP.sub [11, 12, 13, 14, 15, 16, 17, 18, 19, 0, 1, 2, 3, 4, 5, 6, 7, 8, 9, 10, 20] rfl
    have hD : va_D _ (wx cI q sh sp ld nm tx ds a1 a2 (nI 0) ks ++ wm cI2 cZ q2 th sh sp ld nm2 nk tx2 mn ds ct2 co st at0 ha tk ++ [wo o cJ (vp_updL f 0 (a3.toInt64))]) := hD.sub [11, 12, 13, 14, 15, 16, 17, 18, 19, 0, 1, 2, 3, 4, 5, 6, 7, 8, 9, 10, 20] (by decide) rfl
    refine lv_istore (lv' := [(5, .int (nI (0))), (4, .int (nI i)), (3, .ref o), (2, .ref (q2 0)), (1, .ref (q 0)), (0, .ref b)]) hx hb dL_law_925 hl (by decide) rfl (fun ls hl => ?_)
    refine lv_aload_n hx hb dL_law_927 rfl (lv_at hl 3 rfl) ?_
    refine k_callVW (wr := (wx cI q sh sp ld nm tx ds a1 a2 (nI 0) ks ++ [wo o cJ (vp_updL f 0 (a3.toInt64))])) (As := []) (rest := []) ⟨hx, hb, hml, hown, hts⟩ (c_X1_remake l D cI2 cZ q2 th sh sp ld nm2 nk tx2 mn ds ct2 co st at0 ha tk T2 K hR.hG2 (k_D_tt (hD.sub [9, 10, 11, 12, 13, 14, 15, 16, 17, 18, 19] (by decide) rfl))) (cwV 0 hts gL_law_X1_remake rfl rfl rfl (by decide +kernel) ⟨Nat.le_of_ble_eq_true rfl, Nat.le_of_ble_eq_true rfl⟩) k_B_bl (k_B_of (hP.sub [9, 10, 11, 12, 13, 14, 15, 16, 17, 18, 19] rfl) (hK.sub [1, 2] rfl)) (va_recv hK hP (ci := 1) (q0 := 9) rfl rfl) rfl hl.1 rfl (Nat.le_of_ble_eq_true rfl) dL_law_928 ⟨hcc, hss⟩ hP hD hS [0, 1, 2, 3, 4, 5, 6, 7, 8, 20] [9, 10, 11, 12, 13, 14, 15, 16, 17, 18, 19] rfl rfl (fun _ => rfl) (fun v H locs hv hP hD hS _ _ => ?_)
    obtain ⟨v1, vo⟩ := v
    obtain ⟨hv1, hv2⟩ := hv
    rcases lw_or0 hv2 with ⟨hvo, hc2⟩ | ⟨v2, hvo, hc2, hv3⟩
    · exact absurd (hcd.trans hc) hc2
    · skip
      have hv1 : v1 = nI (cd1 (!anyB (badR sh sp ct2 T2 K) 32)) := hv1
      have hvo : vo = _ := hvo
      subst hvo
      subst hv1
      obtain ⟨b1, b2, b3⟩ := v2
      obtain ⟨hq1, hq2⟩ := hv3
      have hq1 : rmG sh (pltR sh sp T2 K) T2 K ct2 co 32 = (b1, b2) := hq1
      have hq2 : b3 = cnB (fun w => anyB (oldR sh ct2 w (T2 w) (K w)) (K w)) 32 := hq2
      obtain ⟨c9, c8, o9, n9, r1, r2, r3, r4, -⟩ := rm_eq (sp := sp) (co := co) hR.1 hR.hK hR.hT hR.2.2.2.2.1 32 (Nat.le_refl _)
      obtain ⟨e1, e2⟩ := Prod.mk.inj (hp1.symm.trans r1)
      obtain ⟨e2, e3⟩ := Prod.mk.inj e2
      subst e1 e2 e3
      obtain ⟨e4, e5⟩ := Prod.mk.inj (hq1.symm.trans r2)
      have e5 := e5.symm
      subst e4
      subst e5
      have hP : va_P D vwCl (wx cI q sh sp ld nm tx ds a1 a2 (nI 0) ks ++ (wm cI2 cZ q2 (nI (cd1 (!anyB (badR sh sp ct2 T2 K) 32))) sh sp ld nm2 nk tx2 mn ds b1 a2 st at0 ha tk) ++ [wo o cJ (vp_updL f 0 (a3.toInt64))]) H := hP.sub [0, 1, 2, 3, 4, 5, 6, 7, 8, 10, 11, 12, 13, 14, 15, 16, 17, 18, 19, 20, 9] rfl
      have hD : va_D _ (wx cI q sh sp ld nm tx ds a1 a2 (nI 0) ks ++ (wm cI2 cZ q2 (nI (cd1 (!anyB (badR sh sp ct2 T2 K) 32))) sh sp ld nm2 nk tx2 mn ds b1 a2 st at0 ha tk) ++ [wo o cJ (vp_updL f 0 (a3.toInt64))]) := hD.sub [0, 1, 2, 3, 4, 5, 6, 7, 8, 10, 11, 12, 13, 14, 15, 16, 17, 18, 19, 20, 9] (by decide) rfl
      refine lv_istore (lv' := [(6, .int (b3)), (5, .int (nI (0))), (4, .int (nI i)), (3, .ref o), (2, .ref (q2 0)), (1, .ref (q 0)), (0, .ref b)]) hx hb dL_law_931 hl (by decide) rfl (fun ls hl => ?_)
      refine lv_aload_n hx hb dL_law_933 rfl (lv_at hl 4 rfl) ?_
      refine k_callVi (As := []) (rest := []) ⟨hx, hb, hml, hown, hts⟩ (c_X1_thrown l D cI2 cZ q2 (nI (cd1 (!anyB (badR sh sp ct2 T2 K) 32))) sh sp ld nm2 nk tx2 mn ds b1 a2 st at0 ha tk) (cwV 0 hts gL_law_X1_thrown rfl rfl rfl (by decide +kernel) ⟨Nat.le_of_ble_eq_true rfl, Nat.le_of_ble_eq_true rfl⟩) k_B_bl (k_B_of (hP.sub [9, 10, 11, 12, 13, 14, 15, 16, 17, 18, 19] rfl) (hK.sub [1, 2] rfl)) (va_recv hK hP (ci := 1) (q0 := 9) rfl rfl) rfl hl.1 rfl (Nat.le_of_ble_eq_true rfl) dL_law_934 ⟨Nat.le_trans (Nat.le_refl _) hcc, Nat.le_trans (Nat.le_refl _) hss⟩ ?_
      refine lv_as (y := nI (0)) (congrArg nI hc2) ?_
      refine lv_iload hx hb dL_law_937 (lv_at hl 1 rfl) ?_
      refine lv_icmp_eq (tgt := 944) hx hb dL_law_939 (by decide) (fun _ => ?_) (fun h9 => absurd rfl h9)
      refine lv_iload hx hb dL_law_944 (lv_at hl 1 rfl) ?_
      refine n_if_ne (tgt := 961) hx hb dL_law_946 (by decide) (by decide) (fun h9 => absurd h9 (by decide)) (fun _ => ?_)
      refine lv_aload_n hx hb dL_law_949 rfl (lv_at hl 3 rfl) ?_
      refine lv_iconst (v := nI 0) hx hb dL_law_950 (by decide) ?_
      refine n_lald hx hb hK hP 20 3 rfl rfl dL_law_951 ?_
      refine lv_iload hx hb dL_law_952 (lv_at hl 0 rfl) ?_
      have hans : a3 = b3 := r3.trans hq2.symm
      refine lv_i2l (v := b3.toInt64) hx hb dL_law_954 rfl ?_
      refine n_lcmpEq hx hb (congrArg Int32.toInt64 hans) dL_law_955 ?_
      refine n_if_eq (tgt := 961) hx hb dL_law_956 (by decide) (by decide) (fun _ => ?_) (fun h9 => absurd h9 (by decide))
      refine lv_goto (tgt := 1298) hx hb dL_law_961 (by decide) ?_
      refine hk H locs ls ?_ (lv_sub hl [2, 3, 4, 5, 6] rfl)
      exact lwI_mk (hR.remake r4) hP hD hS
set_option maxHeartbeats 4000000 in
set_option maxRecDepth 100000 in
theorem lo_read {p : Program} {l : Launch} {e : Env} {s : State} {m : MethodId} {below : List Frame} {meth : Method} {c : Code} {b L : Nat} {xs : Nat → Int32} {Q : State → Prop} {D : va_G} {cI cI2 cZ cJ : ClassId} {q q2 : Nat → Nat} {o : Nat} (hC : lwC p l s m meth c b L xs D cI cI2 cZ cJ) {i : Nat} (hi : i + 7 ≤ L) {cells slots : Nat} (hcc : cells + 8 ≤ room_1.cells) (hss : slots + 48 ≤ room_1.slots) {H : Heap} {locs : List Loc} (hI : lwI D cI q cI2 cZ q2 o cJ s H locs) {ls : Array Slot} (hl : lv_has ls 7 (lwL b q q2 o i)) (hk : ∀ (H : Heap) (locs : List Loc) (ls : Array Slot), lwI D cI q cI2 cZ q2 o cJ s H locs → lv_has ls 7 (lwL b q q2 o i) → W p l e room_1 s m #[Value.ref b] below meth c H locs (cells + 8) (slots + 48) Q (F0 m 1298 ls [])) : W p l e room_1 s m #[Value.ref b] below meth c H locs cells slots Q (F0 m 964 ls []) := by
  obtain ⟨C0, hst, hex, hnc, hK, hL⟩ := hC
  obtain ⟨hx, hb, hr, hml, hown, hts0, hX, hbl, hlocks, hgv⟩ := id C0
  have hts : ∀ w ∈ wsL_law, w.before #[Value.ref b] s = true := fun w h => hts0 w (wsL_law_in w h)
  have hown : s.vm.findClass RL = some m.cls := hown
  have hbA : ¬ (fun a : Nat => s.heap.size ≤ a) b := Nat.not_le.mpr hbl
  obtain ⟨sh, sp, ld, nm, tx, ds, ct, co, kg, ks, th, nm2, nk, tx2, mn, ct2, st, at0, ha, tk, f, T, K, T2, Ld, NT, NK, hR, hP, hD, hS⟩ := hI
  have hl : lv_has ls 7 [(4, .int (nI i)), (3, .ref o), (2, .ref (q2 0)), (1, .ref (q 0)), (0, .ref b)] := hl
  refine lv_aload_n hx hb dL_law_964 rfl (lv_at hl 3 rfl) ?_
  refine lv_aload_n hx hb dL_law_965 rfl (lv_at hl 4 rfl) ?_
  refine lv_iload hx hb dL_law_966 (lv_at hl 0 rfl) ?_
  refine lv_iconst (v := nI 1) hx hb dL_law_968 (by decide) ?_
  refine lv_iadd hx hb dL_law_969 ?_
  refine lv_as (y := nI (i + 1)) (nI_add _ _) ?_
  refine n_sld hx hb hX hbl hbA hS (k := i + 1) (by omega) (by omega) dL_law_970 ?_
  refine lv_aload_n hx hb dL_law_971 rfl (lv_at hl 4 rfl) ?_
  refine lv_iload hx hb dL_law_972 (lv_at hl 0 rfl) ?_
  refine lv_iconst (v := nI 2) hx hb dL_law_974 (by decide) ?_
  refine lv_iadd hx hb dL_law_975 ?_
  refine lv_as (y := nI (i + 2)) (nI_add _ _) ?_
  refine n_sld hx hb hX hbl hbA hS (k := i + 2) (by omega) (by omega) dL_law_976 ?_
  refine lv_aload_n hx hb dL_law_977 rfl (lv_at hl 1 rfl) ?_
  refine k_callTW (wr := (wm cI2 cZ q2 th sh sp ld nm2 nk tx2 mn ds ct2 co st at0 ha tk)) (As := [.ref (q 0), .int (xs (i + 1)), .int (xs (i + 2)), .ref o]) (rest := []) ⟨hx, hb, hml, hown, hts⟩ (c_L_read l hst D cI q sh sp ld nm tx ds ct co kg ks (xs (i + 1)) (xs (i + 2)) T K hR.hG hR.1 hR.hS0 o cJ f (k_D_tt (hD.sub [0, 1, 2, 3, 4, 5, 6, 7, 8, 20] (by decide) rfl))) (vx_cwSW 4 hts gL_law_L_read rfl rfl rfl (by decide +kernel) ⟨Nat.le_of_ble_eq_true rfl, Nat.le_of_ble_eq_true rfl⟩) (k_en_bl k_B_bl) (fun U hU hW => ⟨k_B_of (hP.sub [0, 1, 2, 3, 4, 5, 6, 7, 8, 20] rfl) (hK.sub [0, 3] rfl) U hU hW, k_ex_mv hex hS (fun a h => Nat.not_le.mpr h) U hU hW, k_nc_of hnc U hW⟩) rfl hl.1 rfl (Nat.le_of_ble_eq_true rfl) dL_law_978 ⟨hcc, hss⟩ hP hD hS [9, 10, 11, 12, 13, 14, 15, 16, 17, 18, 19] [0, 1, 2, 3, 4, 5, 6, 7, 8, 20] rfl rfl (fun u => by cases u <;> rfl) (fun u H locs hu hP hD hS => ?_)
  have hcd : cd1 (inB (xs (i + 1)) 8 && inB (xs (i + 2)) 4) = cd1 (inB (xs (i + 1)) 8 && inB (xs (i + 2)) 4) := rfl
  rcases lw_or0 hu with ⟨rfl, hc⟩ | ⟨u1, rfl, hc, hpx⟩
  · skip
    have hP : va_P D vwCl (wx cI q sh sp ld nm tx ds ct co kg ks ++ wm cI2 cZ q2 th sh sp ld nm2 nk tx2 mn ds ct2 co st at0 ha tk ++ [wo o cJ f]) H := hP.sub [11, 12, 13, 14, 15, 16, 17, 18, 19, 0, 1, 2, 3, 4, 5, 6, 7, 8, 9, 10, 20] rfl
    have hD : va_D _ (wx cI q sh sp ld nm tx ds ct co kg ks ++ wm cI2 cZ q2 th sh sp ld nm2 nk tx2 mn ds ct2 co st at0 ha tk ++ [wo o cJ f]) := hD.sub [11, 12, 13, 14, 15, 16, 17, 18, 19, 0, 1, 2, 3, 4, 5, 6, 7, 8, 9, 10, 20] (by decide) rfl
    refine lv_istore (lv' := [(5, .int (nI (cd1 (inB (xs (i + 1)) 8 && inB (xs (i + 2)) 4)))), (4, .int (nI i)), (3, .ref o), (2, .ref (q2 0)), (1, .ref (q 0)), (0, .ref b)]) hx hb dL_law_981 hl (by decide) rfl (fun ls hl => ?_)
    refine lv_aload_n hx hb dL_law_983 rfl (lv_at hl 3 rfl) ?_
    refine lv_aload_n hx hb dL_law_984 rfl (lv_at hl 5 rfl) ?_
    refine lv_iload hx hb dL_law_985 (lv_at hl 1 rfl) ?_
    refine lv_iconst (v := nI 1) hx hb dL_law_987 (by decide) ?_
    refine lv_iadd hx hb dL_law_988 ?_
    refine lv_as (y := nI (i + 1)) (nI_add _ _) ?_
    refine n_sld hx hb hX hbl hbA hS (k := i + 1) (by omega) (by omega) dL_law_989 ?_
    refine lv_aload_n hx hb dL_law_990 rfl (lv_at hl 5 rfl) ?_
    refine lv_iload hx hb dL_law_991 (lv_at hl 1 rfl) ?_
    refine lv_iconst (v := nI 2) hx hb dL_law_993 (by decide) ?_
    refine lv_iadd hx hb dL_law_994 ?_
    refine lv_as (y := nI (i + 2)) (nI_add _ _) ?_
    refine n_sld hx hb hX hbl hbA hS (k := i + 2) (by omega) (by omega) dL_law_995 ?_
    refine k_callVW (wr := (wx cI q sh sp ld nm tx ds ct co kg ks ++ [wo o cJ f])) (As := [.int (xs (i + 1)), .int (xs (i + 2))]) (rest := []) ⟨hx, hb, hml, hown, hts⟩ (c_X1_read l D cI2 cZ q2 th sh sp ld nm2 nk tx2 mn ds ct2 co st at0 ha tk (xs (i + 1)) (xs (i + 2)) T2 K hR.hG2 (k_D_tt (hD.sub [9, 10, 11, 12, 13, 14, 15, 16, 17, 18, 19] (by decide) rfl))) (cwV 2 hts gL_law_X1_read rfl rfl rfl (by decide +kernel) ⟨Nat.le_of_ble_eq_true rfl, Nat.le_of_ble_eq_true rfl⟩) k_B_bl (k_B_of (hP.sub [9, 10, 11, 12, 13, 14, 15, 16, 17, 18, 19] rfl) (hK.sub [1, 2] rfl)) (va_recv hK hP (ci := 1) (q0 := 9) rfl rfl) rfl hl.1 rfl (Nat.le_of_ble_eq_true rfl) dL_law_996 ⟨hcc, hss⟩ hP hD hS [0, 1, 2, 3, 4, 5, 6, 7, 8, 20] [9, 10, 11, 12, 13, 14, 15, 16, 17, 18, 19] rfl rfl (fun _ => rfl) (fun v H locs hv hP hD hS _ _ => ?_)
    obtain ⟨v1, vo⟩ := v
    obtain ⟨hv1, hv2⟩ := hv
    rcases lw_or0 hv2 with ⟨hvo, hc2⟩ | ⟨v2, hvo, hc2, hv3⟩
    · skip
      have hv1 : v1 = nI (cd1 (inB (xs (i + 1)) 8 && inB (xs (i + 2)) 4)) := hv1
      have hvo : vo = _ := hvo
      subst hvo
      subst hv1
      have hP : va_P D vwCl (wx cI q sh sp ld nm tx ds ct co kg ks ++ (wm cI2 cZ q2 (nI (cd1 (inB (xs (i + 1)) 8 && inB (xs (i + 2)) 4))) sh sp ld nm2 nk tx2 mn ds ct2 co st at0 ha tk) ++ [wo o cJ f]) H := hP.sub [0, 1, 2, 3, 4, 5, 6, 7, 8, 10, 11, 12, 13, 14, 15, 16, 17, 18, 19, 20, 9] rfl
      have hD : va_D _ (wx cI q sh sp ld nm tx ds ct co kg ks ++ (wm cI2 cZ q2 (nI (cd1 (inB (xs (i + 1)) 8 && inB (xs (i + 2)) 4))) sh sp ld nm2 nk tx2 mn ds ct2 co st at0 ha tk) ++ [wo o cJ f]) := hD.sub [0, 1, 2, 3, 4, 5, 6, 7, 8, 10, 11, 12, 13, 14, 15, 16, 17, 18, 19, 20, 9] (by decide) rfl
      refine lv_istore (lv' := [(6, .int (nI 0)), (5, .int (nI (cd1 (inB (xs (i + 1)) 8 && inB (xs (i + 2)) 4)))), (4, .int (nI i)), (3, .ref o), (2, .ref (q2 0)), (1, .ref (q 0)), (0, .ref b)]) hx hb dL_law_999 hl (by decide) rfl (fun ls hl => ?_)
      refine lv_aload_n hx hb dL_law_1001 rfl (lv_at hl 4 rfl) ?_
      refine k_callVi (As := []) (rest := []) ⟨hx, hb, hml, hown, hts⟩ (c_X1_thrown l D cI2 cZ q2 (nI (cd1 (inB (xs (i + 1)) 8 && inB (xs (i + 2)) 4))) sh sp ld nm2 nk tx2 mn ds ct2 co st at0 ha tk) (cwV 0 hts gL_law_X1_thrown rfl rfl rfl (by decide +kernel) ⟨Nat.le_of_ble_eq_true rfl, Nat.le_of_ble_eq_true rfl⟩) k_B_bl (k_B_of (hP.sub [9, 10, 11, 12, 13, 14, 15, 16, 17, 18, 19] rfl) (hK.sub [1, 2] rfl)) (va_recv hK hP (ci := 1) (q0 := 9) rfl rfl) rfl hl.1 rfl (Nat.le_of_ble_eq_true rfl) dL_law_1002 ⟨Nat.le_trans (Nat.le_refl _) hcc, Nat.le_trans (Nat.le_refl _) hss⟩ ?_
      refine lv_as (y := nI (cd1 (inB (xs (i + 1)) 8 && inB (xs (i + 2)) 4))) (congrArg nI hcd) ?_
      refine lv_iload hx hb dL_law_1005 (lv_at hl 1 rfl) ?_
      refine lv_icmp_eq (tgt := 1012) hx hb dL_law_1007 (by decide) (fun _ => ?_) (fun h9 => absurd rfl h9)
      refine lv_iload hx hb dL_law_1012 (lv_at hl 1 rfl) ?_
      refine n_if_ne (tgt := 1029) hx hb dL_law_1014 (by decide) (cd1_le _) (fun _ => ?_) (fun h9 => absurd h9 hc)
      refine lv_goto (tgt := 1298) hx hb dL_law_1029 (by decide) ?_
      refine hk H locs ls ?_ (lv_sub hl [2, 3, 4, 5, 6] rfl)
      exact lwI_mk (hR) hP hD hS
    · exact absurd (hcd.symm.trans hc2) hc
  · skip
    obtain ⟨a1, a2⟩ := u1
    obtain ⟨hp1, hp2, hp3, hp4⟩ := hpx
    have hp1 : a1 < 8 := hp1
    have hp2 : (xs (i + 1)) = nI a1 := hp2
    have hp3 : a2 < 4 := hp3
    have hp4 : (xs (i + 2)) = nI a2 := hp4
    have hP : va_P D vwCl (wx cI q sh sp ld nm tx ds ct co kg ks ++ wm cI2 cZ q2 th sh sp ld nm2 nk tx2 mn ds ct2 co st at0 ha tk ++ [wo o cJ (vp_updL f 0 ((if K (a1 * 4 + a2) = 0 then (-1) else nI (rtN (rdS sh ct ds (a1 * 4 + a2)) (K (a1 * 4 + a2)))).toInt64))]) H := hP.sub [11, 12, 13, 14, 15, 16, 17, 18, 19, 0, 1, 2, 3, 4, 5, 6, 7, 8, 9, 10, 20] rfl
    have hD : va_D _ (wx cI q sh sp ld nm tx ds ct co kg ks ++ wm cI2 cZ q2 th sh sp ld nm2 nk tx2 mn ds ct2 co st at0 ha tk ++ [wo o cJ (vp_updL f 0 ((if K (a1 * 4 + a2) = 0 then (-1) else nI (rtN (rdS sh ct ds (a1 * 4 + a2)) (K (a1 * 4 + a2)))).toInt64))]) := hD.sub [11, 12, 13, 14, 15, 16, 17, 18, 19, 0, 1, 2, 3, 4, 5, 6, 7, 8, 9, 10, 20] (by decide) rfl
    rw [show a1 * 4 + a2 = 4 * a1 + a2 from by omega] at hP hD
    refine lv_istore (lv' := [(5, .int (nI (0))), (4, .int (nI i)), (3, .ref o), (2, .ref (q2 0)), (1, .ref (q 0)), (0, .ref b)]) hx hb dL_law_981 hl (by decide) rfl (fun ls hl => ?_)
    refine lv_aload_n hx hb dL_law_983 rfl (lv_at hl 3 rfl) ?_
    refine lv_aload_n hx hb dL_law_984 rfl (lv_at hl 5 rfl) ?_
    refine lv_iload hx hb dL_law_985 (lv_at hl 1 rfl) ?_
    refine lv_iconst (v := nI 1) hx hb dL_law_987 (by decide) ?_
    refine lv_iadd hx hb dL_law_988 ?_
    refine lv_as (y := nI (i + 1)) (nI_add _ _) ?_
    refine n_sld hx hb hX hbl hbA hS (k := i + 1) (by omega) (by omega) dL_law_989 ?_
    refine lv_aload_n hx hb dL_law_990 rfl (lv_at hl 5 rfl) ?_
    refine lv_iload hx hb dL_law_991 (lv_at hl 1 rfl) ?_
    refine lv_iconst (v := nI 2) hx hb dL_law_993 (by decide) ?_
    refine lv_iadd hx hb dL_law_994 ?_
    refine lv_as (y := nI (i + 2)) (nI_add _ _) ?_
    refine n_sld hx hb hX hbl hbA hS (k := i + 2) (by omega) (by omega) dL_law_995 ?_
    refine k_callVW (wr := (wx cI q sh sp ld nm tx ds ct co kg ks ++ [wo o cJ (vp_updL f 0 ((if K (4 * a1 + a2) = 0 then (-1) else nI (rtN (rdS sh ct ds (4 * a1 + a2)) (K (4 * a1 + a2)))).toInt64))])) (As := [.int (xs (i + 1)), .int (xs (i + 2))]) (rest := []) ⟨hx, hb, hml, hown, hts⟩ (c_X1_read l D cI2 cZ q2 th sh sp ld nm2 nk tx2 mn ds ct2 co st at0 ha tk (xs (i + 1)) (xs (i + 2)) T2 K hR.hG2 (k_D_tt (hD.sub [9, 10, 11, 12, 13, 14, 15, 16, 17, 18, 19] (by decide) rfl))) (cwV 2 hts gL_law_X1_read rfl rfl rfl (by decide +kernel) ⟨Nat.le_of_ble_eq_true rfl, Nat.le_of_ble_eq_true rfl⟩) k_B_bl (k_B_of (hP.sub [9, 10, 11, 12, 13, 14, 15, 16, 17, 18, 19] rfl) (hK.sub [1, 2] rfl)) (va_recv hK hP (ci := 1) (q0 := 9) rfl rfl) rfl hl.1 rfl (Nat.le_of_ble_eq_true rfl) dL_law_996 ⟨hcc, hss⟩ hP hD hS [0, 1, 2, 3, 4, 5, 6, 7, 8, 20] [9, 10, 11, 12, 13, 14, 15, 16, 17, 18, 19] rfl rfl (fun _ => rfl) (fun v H locs hv hP hD hS _ _ => ?_)
    obtain ⟨v1, vo⟩ := v
    obtain ⟨hv1, hv2⟩ := hv
    rcases lw_or0 hv2 with ⟨hvo, hc2⟩ | ⟨v2, hvo, hc2, hv3⟩
    · exact absurd (hcd.trans hc) hc2
    · skip
      have hv1 : v1 = nI (cd1 (inB (xs (i + 1)) 8 && inB (xs (i + 2)) 4)) := hv1
      have hvo : vo = _ := hvo
      subst hvo
      subst hv1
      obtain ⟨b1, b2⟩ := v2
      obtain ⟨hq1, hq2, hq3, hq4⟩ := hv3
      have hq1 : b1 < 8 := hq1
      have hq2 : (xs (i + 1)) = nI b1 := hq2
      have hq3 : b2 < 4 := hq3
      have hq4 : (xs (i + 2)) = nI b2 := hq4
      have hab : a1 = b1 := nI_inj (by omega) (by omega) (hp2.symm.trans hq2)
      subst hab
      have hab : a2 = b2 := nI_inj (by omega) (by omega) (hp4.symm.trans hq4)
      subst hab
      have hP : va_P D vwCl (wx cI q sh sp ld nm tx ds ct co kg ks ++ (wm cI2 cZ q2 (nI (cd1 (inB (xs (i + 1)) 8 && inB (xs (i + 2)) 4))) sh sp ld nm2 nk tx2 mn ds ct2 co st at0 ha tk) ++ [wo o cJ (vp_updL f 0 ((if K (4 * a1 + a2) = 0 then (-1) else nI (rtN (rdS sh ct ds (4 * a1 + a2)) (K (4 * a1 + a2)))).toInt64))]) H := hP.sub [0, 1, 2, 3, 4, 5, 6, 7, 8, 10, 11, 12, 13, 14, 15, 16, 17, 18, 19, 20, 9] rfl
      have hD : va_D _ (wx cI q sh sp ld nm tx ds ct co kg ks ++ (wm cI2 cZ q2 (nI (cd1 (inB (xs (i + 1)) 8 && inB (xs (i + 2)) 4))) sh sp ld nm2 nk tx2 mn ds ct2 co st at0 ha tk) ++ [wo o cJ (vp_updL f 0 ((if K (4 * a1 + a2) = 0 then (-1) else nI (rtN (rdS sh ct ds (4 * a1 + a2)) (K (4 * a1 + a2)))).toInt64))]) := hD.sub [0, 1, 2, 3, 4, 5, 6, 7, 8, 10, 11, 12, 13, 14, 15, 16, 17, 18, 19, 20, 9] (by decide) rfl
      refine lv_istore (lv' := [(6, .int (if K (4 * a1 + a2) = 0 then (-1) else nI (rrN (rdR sh ct2 ds (4 * a1 + a2)) (K (4 * a1 + a2))))), (5, .int (nI (0))), (4, .int (nI i)), (3, .ref o), (2, .ref (q2 0)), (1, .ref (q 0)), (0, .ref b)]) hx hb dL_law_999 hl (by decide) rfl (fun ls hl => ?_)
      refine lv_aload_n hx hb dL_law_1001 rfl (lv_at hl 4 rfl) ?_
      refine k_callVi (As := []) (rest := []) ⟨hx, hb, hml, hown, hts⟩ (c_X1_thrown l D cI2 cZ q2 (nI (cd1 (inB (xs (i + 1)) 8 && inB (xs (i + 2)) 4))) sh sp ld nm2 nk tx2 mn ds ct2 co st at0 ha tk) (cwV 0 hts gL_law_X1_thrown rfl rfl rfl (by decide +kernel) ⟨Nat.le_of_ble_eq_true rfl, Nat.le_of_ble_eq_true rfl⟩) k_B_bl (k_B_of (hP.sub [9, 10, 11, 12, 13, 14, 15, 16, 17, 18, 19] rfl) (hK.sub [1, 2] rfl)) (va_recv hK hP (ci := 1) (q0 := 9) rfl rfl) rfl hl.1 rfl (Nat.le_of_ble_eq_true rfl) dL_law_1002 ⟨Nat.le_trans (Nat.le_refl _) hcc, Nat.le_trans (Nat.le_refl _) hss⟩ ?_
      refine lv_as (y := nI (0)) (congrArg nI hc2) ?_
      refine lv_iload hx hb dL_law_1005 (lv_at hl 1 rfl) ?_
      refine lv_icmp_eq (tgt := 1012) hx hb dL_law_1007 (by decide) (fun _ => ?_) (fun h9 => absurd rfl h9)
      refine lv_iload hx hb dL_law_1012 (lv_at hl 1 rfl) ?_
      refine n_if_ne (tgt := 1029) hx hb dL_law_1014 (by decide) (by decide) (fun h9 => absurd h9 (by decide)) (fun _ => ?_)
      refine lv_aload_n hx hb dL_law_1017 rfl (lv_at hl 3 rfl) ?_
      refine lv_iconst (v := nI 0) hx hb dL_law_1018 (by decide) ?_
      refine n_lald hx hb hK hP 20 3 rfl rfl dL_law_1019 ?_
      refine lv_iload hx hb dL_law_1020 (lv_at hl 0 rfl) ?_
      have hans : (if K (4 * a1 + a2) = 0 then (-1) else nI (rtN (rdS sh ct ds (4 * a1 + a2)) (K (4 * a1 + a2)))) = if K (4 * a1 + a2) = 0 then (-1) else nI (rrN (rdR sh ct2 ds (4 * a1 + a2)) (K (4 * a1 + a2))) := hR.read (by omega)
      refine lv_i2l (v := (if K (4 * a1 + a2) = 0 then (-1) else nI (rrN (rdR sh ct2 ds (4 * a1 + a2)) (K (4 * a1 + a2)))).toInt64) hx hb dL_law_1022 rfl ?_
      refine n_lcmpEq hx hb (congrArg Int32.toInt64 hans) dL_law_1023 ?_
      refine n_if_eq (tgt := 1029) hx hb dL_law_1024 (by decide) (by decide) (fun _ => ?_) (fun h9 => absurd h9 (by decide))
      refine lv_goto (tgt := 1298) hx hb dL_law_1029 (by decide) ?_
      refine hk H locs ls ?_ (lv_sub hl [2, 3, 4, 5, 6] rfl)
      exact lwI_mk (hR) hP hD hS
set_option maxHeartbeats 4000000 in
set_option maxRecDepth 100000 in
theorem lo_walk {p : Program} {l : Launch} {e : Env} {s : State} {m : MethodId} {below : List Frame} {meth : Method} {c : Code} {b L : Nat} {xs : Nat → Int32} {Q : State → Prop} {D : va_G} {cI cI2 cZ cJ : ClassId} {q q2 : Nat → Nat} {o : Nat} (hC : lwC p l s m meth c b L xs D cI cI2 cZ cJ) {i : Nat} (hi : i + 7 ≤ L) {cells slots : Nat} (hcc : cells + 8 ≤ room_1.cells) (hss : slots + 48 ≤ room_1.slots) {H : Heap} {locs : List Loc} (hI : lwI D cI q cI2 cZ q2 o cJ s H locs) {ls : Array Slot} (hl : lv_has ls 7 (lwL b q q2 o i)) (hk : ∀ (H : Heap) (locs : List Loc) (ls : Array Slot), lwI D cI q cI2 cZ q2 o cJ s H locs → lv_has ls 7 (lwL b q q2 o i) → W p l e room_1 s m #[Value.ref b] below meth c H locs (cells + 8) (slots + 48) Q (F0 m 1298 ls [])) : W p l e room_1 s m #[Value.ref b] below meth c H locs cells slots Q (F0 m 1046 ls []) := by
  obtain ⟨C0, hst, hex, hnc, hK, hL⟩ := hC
  obtain ⟨hx, hb, hr, hml, hown, hts0, hX, hbl, hlocks, hgv⟩ := id C0
  have hts : ∀ w ∈ wsL_law, w.before #[Value.ref b] s = true := fun w h => hts0 w (wsL_law_in w h)
  have hown : s.vm.findClass RL = some m.cls := hown
  have hbA : ¬ (fun a : Nat => s.heap.size ≤ a) b := Nat.not_le.mpr hbl
  obtain ⟨sh, sp, ld, nm, tx, ds, ct, co, kg, ks, th, nm2, nk, tx2, mn, ct2, st, at0, ha, tk, f, T, K, T2, Ld, NT, NK, hR, hP, hD, hS⟩ := hI
  have hl : lv_has ls 7 [(4, .int (nI i)), (3, .ref o), (2, .ref (q2 0)), (1, .ref (q 0)), (0, .ref b)] := hl
  refine lv_aload_n hx hb dL_law_1046 rfl (lv_at hl 3 rfl) ?_
  refine lv_aload_n hx hb dL_law_1047 rfl (lv_at hl 4 rfl) ?_
  refine lv_iload hx hb dL_law_1048 (lv_at hl 0 rfl) ?_
  refine lv_iconst (v := nI 1) hx hb dL_law_1050 (by decide) ?_
  refine lv_iadd hx hb dL_law_1051 ?_
  refine lv_as (y := nI (i + 1)) (nI_add _ _) ?_
  refine n_sld hx hb hX hbl hbA hS (k := i + 1) (by omega) (by omega) dL_law_1052 ?_
  refine lv_aload_n hx hb dL_law_1053 rfl (lv_at hl 4 rfl) ?_
  refine lv_iload hx hb dL_law_1054 (lv_at hl 0 rfl) ?_
  refine lv_iconst (v := nI 2) hx hb dL_law_1056 (by decide) ?_
  refine lv_iadd hx hb dL_law_1057 ?_
  refine lv_as (y := nI (i + 2)) (nI_add _ _) ?_
  refine n_sld hx hb hX hbl hbA hS (k := i + 2) (by omega) (by omega) dL_law_1058 ?_
  refine lv_aload_n hx hb dL_law_1059 rfl (lv_at hl 4 rfl) ?_
  refine lv_iload hx hb dL_law_1060 (lv_at hl 0 rfl) ?_
  refine lv_iconst (v := nI 3) hx hb dL_law_1062 (by decide) ?_
  refine lv_iadd hx hb dL_law_1063 ?_
  refine lv_as (y := nI (i + 3)) (nI_add _ _) ?_
  refine n_sld hx hb hX hbl hbA hS (k := i + 3) (by omega) (by omega) dL_law_1064 ?_
  refine lv_aload_n hx hb dL_law_1065 rfl (lv_at hl 1 rfl) ?_
  refine k_callTW (wr := (wm cI2 cZ q2 th sh sp ld nm2 nk tx2 mn ds ct2 co st at0 ha tk)) (As := [.ref (q 0), .int (xs (i + 1)), .int (xs (i + 2)), .int (xs (i + 3)), .ref o]) (rest := []) ⟨hx, hb, hml, hown, hts⟩ (c_L_walk l hst D cI q sh sp ld nm tx ds ct co kg ks (xs (i + 1)) (xs (i + 2)) (xs (i + 3)) T K hR.hG Ld hR.2.1 hR.1 NT NK hR.hN hR.2.2.2.2.2 o cJ f (k_D_tt (hD.sub [0, 1, 2, 3, 4, 5, 6, 7, 8, 20] (by decide) rfl))) (vx_cwSW 5 hts gL_law_L_walk rfl rfl rfl (by decide +kernel) ⟨Nat.le_of_ble_eq_true rfl, Nat.le_of_ble_eq_true rfl⟩) (k_en_bl k_B_bl) (fun U hU hW => ⟨k_B_of (hP.sub [0, 1, 2, 3, 4, 5, 6, 7, 8, 20] rfl) (hK.sub [0, 3] rfl) U hU hW, k_ex_mv hex hS (fun a h => Nat.not_le.mpr h) U hU hW, k_nc_of hnc U hW⟩) rfl hl.1 rfl (Nat.le_of_ble_eq_true rfl) dL_law_1066 ⟨hcc, hss⟩ hP hD hS [9, 10, 11, 12, 13, 14, 15, 16, 17, 18, 19] [0, 1, 2, 3, 4, 5, 6, 7, 8, 20] rfl rfl (fun u => by cases u <;> rfl) (fun u H locs hu hP hD hS => ?_)
  have hcd : cd2 (inB (xs (i + 1)) 8) (txB (xs (i + 2)) (xs (i + 3))) = cd2 (inB (xs (i + 1)) 8) (txB (xs (i + 2)) (xs (i + 3))) := rfl
  rcases lw_or0 hu with ⟨rfl, hc⟩ | ⟨u1, rfl, hc, hpx⟩
  · skip
    have hP : va_P D vwCl (wx cI q sh sp ld nm tx ds ct co kg ks ++ wm cI2 cZ q2 th sh sp ld nm2 nk tx2 mn ds ct2 co st at0 ha tk ++ [wo o cJ f]) H := hP.sub [11, 12, 13, 14, 15, 16, 17, 18, 19, 0, 1, 2, 3, 4, 5, 6, 7, 8, 9, 10, 20] rfl
    have hD : va_D _ (wx cI q sh sp ld nm tx ds ct co kg ks ++ wm cI2 cZ q2 th sh sp ld nm2 nk tx2 mn ds ct2 co st at0 ha tk ++ [wo o cJ f]) := hD.sub [11, 12, 13, 14, 15, 16, 17, 18, 19, 0, 1, 2, 3, 4, 5, 6, 7, 8, 9, 10, 20] (by decide) rfl
    refine lv_istore (lv' := [(5, .int (nI (cd2 (inB (xs (i + 1)) 8) (txB (xs (i + 2)) (xs (i + 3)))))), (4, .int (nI i)), (3, .ref o), (2, .ref (q2 0)), (1, .ref (q 0)), (0, .ref b)]) hx hb dL_law_1069 hl (by decide) rfl (fun ls hl => ?_)
    refine lv_aload_n hx hb dL_law_1071 rfl (lv_at hl 3 rfl) ?_
    refine lv_aload_n hx hb dL_law_1072 rfl (lv_at hl 5 rfl) ?_
    refine lv_iload hx hb dL_law_1073 (lv_at hl 1 rfl) ?_
    refine lv_iconst (v := nI 1) hx hb dL_law_1075 (by decide) ?_
    refine lv_iadd hx hb dL_law_1076 ?_
    refine lv_as (y := nI (i + 1)) (nI_add _ _) ?_
    refine n_sld hx hb hX hbl hbA hS (k := i + 1) (by omega) (by omega) dL_law_1077 ?_
    refine lv_aload_n hx hb dL_law_1078 rfl (lv_at hl 5 rfl) ?_
    refine lv_iload hx hb dL_law_1079 (lv_at hl 1 rfl) ?_
    refine lv_iconst (v := nI 2) hx hb dL_law_1081 (by decide) ?_
    refine lv_iadd hx hb dL_law_1082 ?_
    refine lv_as (y := nI (i + 2)) (nI_add _ _) ?_
    refine n_sld hx hb hX hbl hbA hS (k := i + 2) (by omega) (by omega) dL_law_1083 ?_
    refine lv_aload_n hx hb dL_law_1084 rfl (lv_at hl 5 rfl) ?_
    refine lv_iload hx hb dL_law_1085 (lv_at hl 1 rfl) ?_
    refine lv_iconst (v := nI 3) hx hb dL_law_1087 (by decide) ?_
    refine lv_iadd hx hb dL_law_1088 ?_
    refine lv_as (y := nI (i + 3)) (nI_add _ _) ?_
    refine n_sld hx hb hX hbl hbA hS (k := i + 3) (by omega) (by omega) dL_law_1089 ?_
    refine k_callVW (wr := (wx cI q sh sp ld nm tx ds ct co kg ks ++ [wo o cJ f])) (As := [.int (xs (i + 1)), .int (xs (i + 2)), .int (xs (i + 3))]) (rest := []) ⟨hx, hb, hml, hown, hts⟩ (c_X1_walk l D cI2 cZ q2 th sh sp ld nm2 nk tx2 mn ds ct2 co st at0 ha tk (xs (i + 1)) (xs (i + 2)) (xs (i + 3)) K Ld hR.hGk hR.2.1 NT NK hR.hN2 (k_D_tt (hD.sub [9, 10, 11, 12, 13, 14, 15, 16, 17, 18, 19] (by decide) rfl))) (cwV 3 hts gL_law_X1_walk rfl rfl rfl (by decide +kernel) ⟨Nat.le_of_ble_eq_true rfl, Nat.le_of_ble_eq_true rfl⟩) k_B_bl (k_B_of (hP.sub [9, 10, 11, 12, 13, 14, 15, 16, 17, 18, 19] rfl) (hK.sub [1, 2] rfl)) (va_recv hK hP (ci := 1) (q0 := 9) rfl rfl) rfl hl.1 rfl (Nat.le_of_ble_eq_true rfl) dL_law_1090 ⟨hcc, hss⟩ hP hD hS [0, 1, 2, 3, 4, 5, 6, 7, 8, 20] [9, 10, 11, 12, 13, 14, 15, 16, 17, 18, 19] rfl rfl (fun _ => rfl) (fun v H locs hv hP hD hS _ _ => ?_)
    obtain ⟨v1, vo⟩ := v
    obtain ⟨hv1, hv2⟩ := hv
    rcases lw_or0 hv2 with ⟨hvo, hc2⟩ | ⟨v2, hvo, hc2, hv3⟩
    · skip
      have hv1 : v1 = nI (cd2 (inB (xs (i + 1)) 8) (txB (xs (i + 2)) (xs (i + 3)))) := hv1
      have hvo : vo = _ := hvo
      subst hvo
      subst hv1
      have hP : va_P D vwCl (wx cI q sh sp ld nm tx ds ct co kg ks ++ (wm cI2 cZ q2 (nI (cd2 (inB (xs (i + 1)) 8) (txB (xs (i + 2)) (xs (i + 3))))) sh sp ld nm2 nk tx2 mn ds ct2 co st at0 ha tk) ++ [wo o cJ f]) H := hP.sub [0, 1, 2, 3, 4, 5, 6, 7, 8, 10, 11, 12, 13, 14, 15, 16, 17, 18, 19, 20, 9] rfl
      have hD : va_D _ (wx cI q sh sp ld nm tx ds ct co kg ks ++ (wm cI2 cZ q2 (nI (cd2 (inB (xs (i + 1)) 8) (txB (xs (i + 2)) (xs (i + 3))))) sh sp ld nm2 nk tx2 mn ds ct2 co st at0 ha tk) ++ [wo o cJ f]) := hD.sub [0, 1, 2, 3, 4, 5, 6, 7, 8, 10, 11, 12, 13, 14, 15, 16, 17, 18, 19, 20, 9] (by decide) rfl
      refine lv_istore (lv' := [(6, .int (nI 0)), (5, .int (nI (cd2 (inB (xs (i + 1)) 8) (txB (xs (i + 2)) (xs (i + 3)))))), (4, .int (nI i)), (3, .ref o), (2, .ref (q2 0)), (1, .ref (q 0)), (0, .ref b)]) hx hb dL_law_1093 hl (by decide) rfl (fun ls hl => ?_)
      refine lv_aload_n hx hb dL_law_1095 rfl (lv_at hl 4 rfl) ?_
      refine k_callVi (As := []) (rest := []) ⟨hx, hb, hml, hown, hts⟩ (c_X1_thrown l D cI2 cZ q2 (nI (cd2 (inB (xs (i + 1)) 8) (txB (xs (i + 2)) (xs (i + 3))))) sh sp ld nm2 nk tx2 mn ds ct2 co st at0 ha tk) (cwV 0 hts gL_law_X1_thrown rfl rfl rfl (by decide +kernel) ⟨Nat.le_of_ble_eq_true rfl, Nat.le_of_ble_eq_true rfl⟩) k_B_bl (k_B_of (hP.sub [9, 10, 11, 12, 13, 14, 15, 16, 17, 18, 19] rfl) (hK.sub [1, 2] rfl)) (va_recv hK hP (ci := 1) (q0 := 9) rfl rfl) rfl hl.1 rfl (Nat.le_of_ble_eq_true rfl) dL_law_1096 ⟨Nat.le_trans (Nat.le_refl _) hcc, Nat.le_trans (Nat.le_refl _) hss⟩ ?_
      refine lv_as (y := nI (cd2 (inB (xs (i + 1)) 8) (txB (xs (i + 2)) (xs (i + 3))))) (congrArg nI hcd) ?_
      refine lv_iload hx hb dL_law_1099 (lv_at hl 1 rfl) ?_
      refine lv_icmp_eq (tgt := 1106) hx hb dL_law_1101 (by decide) (fun _ => ?_) (fun h9 => absurd rfl h9)
      refine lv_iload hx hb dL_law_1106 (lv_at hl 1 rfl) ?_
      refine n_if_ne (tgt := 1123) hx hb dL_law_1108 (by decide) (cd2_le _ _) (fun _ => ?_) (fun h9 => absurd h9 hc)
      refine lv_goto (tgt := 1298) hx hb dL_law_1123 (by decide) ?_
      refine hk H locs ls ?_ (lv_sub hl [2, 3, 4, 5, 6] rfl)
      exact lwI_mk (hR) hP hD hS
    · exact absurd (hcd.symm.trans hc2) hc
  · skip
    obtain ⟨⟨a1, a2, a3⟩, a4, a5⟩ := u1
    obtain ⟨hp1, hp2, hp3, hp4, hp5, hp6, hp7, hp8⟩ := hpx
    have hp1 : a1 < 8 := hp1
    have hp2 : (xs (i + 1)) = nI a1 := hp2
    have hp3 : 1 ≤ a3 := hp3
    have hp4 : a3 ≤ 5 := hp4
    have hp5 : a2 < 8 ^ a3 := hp5
    have hp6 : (xs (i + 2)) = nI a2 := hp6
    have hp7 : (xs (i + 3)) = nI a3 := hp7
    have hp8 : kpOK (fun gk gt p => sa (toldC sh ct ds K gk gt) Ld (arrC NK NT gk gt) 31 0 p tk0) a4 a5 := hp8
    have hP : va_P D vwCl (wx cI q sh sp ld nm tx ds ct co a4 a5 ++ wm cI2 cZ q2 th sh sp ld nm2 nk tx2 mn ds ct2 co st at0 ha tk ++ [wo o cJ (vp_updL f 0 ((sa (toldC sh ct ds K a3 a2) Ld (arrC NK NT a3 a2) 31 0 a1 tk0).toInt64))]) H := hP.sub [11, 12, 13, 14, 15, 16, 17, 18, 19, 0, 1, 2, 3, 4, 5, 6, 7, 8, 9, 10, 20] rfl
    have hD : va_D _ (wx cI q sh sp ld nm tx ds ct co a4 a5 ++ wm cI2 cZ q2 th sh sp ld nm2 nk tx2 mn ds ct2 co st at0 ha tk ++ [wo o cJ (vp_updL f 0 ((sa (toldC sh ct ds K a3 a2) Ld (arrC NK NT a3 a2) 31 0 a1 tk0).toInt64))]) := hD.sub [11, 12, 13, 14, 15, 16, 17, 18, 19, 0, 1, 2, 3, 4, 5, 6, 7, 8, 9, 10, 20] (by decide) rfl
    refine lv_istore (lv' := [(5, .int (nI (0))), (4, .int (nI i)), (3, .ref o), (2, .ref (q2 0)), (1, .ref (q 0)), (0, .ref b)]) hx hb dL_law_1069 hl (by decide) rfl (fun ls hl => ?_)
    refine lv_aload_n hx hb dL_law_1071 rfl (lv_at hl 3 rfl) ?_
    refine lv_aload_n hx hb dL_law_1072 rfl (lv_at hl 5 rfl) ?_
    refine lv_iload hx hb dL_law_1073 (lv_at hl 1 rfl) ?_
    refine lv_iconst (v := nI 1) hx hb dL_law_1075 (by decide) ?_
    refine lv_iadd hx hb dL_law_1076 ?_
    refine lv_as (y := nI (i + 1)) (nI_add _ _) ?_
    refine n_sld hx hb hX hbl hbA hS (k := i + 1) (by omega) (by omega) dL_law_1077 ?_
    refine lv_aload_n hx hb dL_law_1078 rfl (lv_at hl 5 rfl) ?_
    refine lv_iload hx hb dL_law_1079 (lv_at hl 1 rfl) ?_
    refine lv_iconst (v := nI 2) hx hb dL_law_1081 (by decide) ?_
    refine lv_iadd hx hb dL_law_1082 ?_
    refine lv_as (y := nI (i + 2)) (nI_add _ _) ?_
    refine n_sld hx hb hX hbl hbA hS (k := i + 2) (by omega) (by omega) dL_law_1083 ?_
    refine lv_aload_n hx hb dL_law_1084 rfl (lv_at hl 5 rfl) ?_
    refine lv_iload hx hb dL_law_1085 (lv_at hl 1 rfl) ?_
    refine lv_iconst (v := nI 3) hx hb dL_law_1087 (by decide) ?_
    refine lv_iadd hx hb dL_law_1088 ?_
    refine lv_as (y := nI (i + 3)) (nI_add _ _) ?_
    refine n_sld hx hb hX hbl hbA hS (k := i + 3) (by omega) (by omega) dL_law_1089 ?_
    refine k_callVW (wr := (wx cI q sh sp ld nm tx ds ct co a4 a5 ++ [wo o cJ (vp_updL f 0 ((sa (toldC sh ct ds K a3 a2) Ld (arrC NK NT a3 a2) 31 0 a1 tk0).toInt64))])) (As := [.int (xs (i + 1)), .int (xs (i + 2)), .int (xs (i + 3))]) (rest := []) ⟨hx, hb, hml, hown, hts⟩ (c_X1_walk l D cI2 cZ q2 th sh sp ld nm2 nk tx2 mn ds ct2 co st at0 ha tk (xs (i + 1)) (xs (i + 2)) (xs (i + 3)) K Ld hR.hGk hR.2.1 NT NK hR.hN2 (k_D_tt (hD.sub [9, 10, 11, 12, 13, 14, 15, 16, 17, 18, 19] (by decide) rfl))) (cwV 3 hts gL_law_X1_walk rfl rfl rfl (by decide +kernel) ⟨Nat.le_of_ble_eq_true rfl, Nat.le_of_ble_eq_true rfl⟩) k_B_bl (k_B_of (hP.sub [9, 10, 11, 12, 13, 14, 15, 16, 17, 18, 19] rfl) (hK.sub [1, 2] rfl)) (va_recv hK hP (ci := 1) (q0 := 9) rfl rfl) rfl hl.1 rfl (Nat.le_of_ble_eq_true rfl) dL_law_1090 ⟨hcc, hss⟩ hP hD hS [0, 1, 2, 3, 4, 5, 6, 7, 8, 20] [9, 10, 11, 12, 13, 14, 15, 16, 17, 18, 19] rfl rfl (fun _ => rfl) (fun v H locs hv hP hD hS _ _ => ?_)
    obtain ⟨v1, vo⟩ := v
    obtain ⟨hv1, hv2⟩ := hv
    rcases lw_or0 hv2 with ⟨hvo, hc2⟩ | ⟨v2, hvo, hc2, hv3⟩
    · exact absurd (hcd.trans hc) hc2
    · skip
      have hv1 : v1 = nI (cd2 (inB (xs (i + 1)) 8) (txB (xs (i + 2)) (xs (i + 3)))) := hv1
      have hvo : vo = _ := hvo
      subst hvo
      subst hv1
      obtain ⟨⟨b1, b2, b3⟩, b4, b5, b6, b7⟩ := v2
      obtain ⟨hq1, hq2, hq3, hq4, hq5, hq6, hq7⟩ := hv3
      have hq1 : b1 < 8 := hq1
      have hq2 : (xs (i + 1)) = nI b1 := hq2
      have hq3 : 1 ≤ b3 := hq3
      have hq4 : b3 ≤ 5 := hq4
      have hq5 : b2 < 8 ^ b3 := hq5
      have hq6 : (xs (i + 2)) = nI b2 := hq6
      have hq7 : (xs (i + 3)) = nI b3 := hq7
      have zhp4 := p8_le hp4
      have zhq4 := p8_le hq4
      have hab : a1 = b1 := nI_inj (by omega) (by omega) (hp2.symm.trans hq2)
      subst hab
      have hab : a2 = b2 := nI_inj (by omega) (by omega) (hp6.symm.trans hq6)
      subst hab
      have hab : a3 = b3 := nI_inj (by omega) (by omega) (hp7.symm.trans hq7)
      subst hab
      have hP : va_P D vwCl (wx cI q sh sp ld nm tx ds ct co a4 a5 ++ (wm cI2 cZ q2 (nI (cd2 (inB (xs (i + 1)) 8) (txB (xs (i + 2)) (xs (i + 3))))) sh sp ld nm2 nk tx2 mn ds ct2 co b5 b6 b7 b4) ++ [wo o cJ (vp_updL f 0 ((sa (toldC sh ct ds K a3 a2) Ld (arrC NK NT a3 a2) 31 0 a1 tk0).toInt64))]) H := hP.sub [0, 1, 2, 3, 4, 5, 6, 7, 8, 10, 11, 12, 13, 14, 15, 16, 17, 18, 19, 20, 9] rfl
      have hD : va_D _ (wx cI q sh sp ld nm tx ds ct co a4 a5 ++ (wm cI2 cZ q2 (nI (cd2 (inB (xs (i + 1)) 8) (txB (xs (i + 2)) (xs (i + 3))))) sh sp ld nm2 nk tx2 mn ds ct2 co b5 b6 b7 b4) ++ [wo o cJ (vp_updL f 0 ((sa (toldC sh ct ds K a3 a2) Ld (arrC NK NT a3 a2) 31 0 a1 tk0).toInt64))]) := hD.sub [0, 1, 2, 3, 4, 5, 6, 7, 8, 10, 11, 12, 13, 14, 15, 16, 17, 18, 19, 20, 9] (by decide) rfl
      refine lv_istore (lv' := [(6, .int (sa (toldR sh ct2 ds K a3 a2) Ld (arrC NK NT a3 a2) 31 0 a1 tk0)), (5, .int (nI (0))), (4, .int (nI i)), (3, .ref o), (2, .ref (q2 0)), (1, .ref (q 0)), (0, .ref b)]) hx hb dL_law_1093 hl (by decide) rfl (fun ls hl => ?_)
      refine lv_aload_n hx hb dL_law_1095 rfl (lv_at hl 4 rfl) ?_
      refine k_callVi (As := []) (rest := []) ⟨hx, hb, hml, hown, hts⟩ (c_X1_thrown l D cI2 cZ q2 (nI (cd2 (inB (xs (i + 1)) 8) (txB (xs (i + 2)) (xs (i + 3))))) sh sp ld nm2 nk tx2 mn ds ct2 co b5 b6 b7 b4) (cwV 0 hts gL_law_X1_thrown rfl rfl rfl (by decide +kernel) ⟨Nat.le_of_ble_eq_true rfl, Nat.le_of_ble_eq_true rfl⟩) k_B_bl (k_B_of (hP.sub [9, 10, 11, 12, 13, 14, 15, 16, 17, 18, 19] rfl) (hK.sub [1, 2] rfl)) (va_recv hK hP (ci := 1) (q0 := 9) rfl rfl) rfl hl.1 rfl (Nat.le_of_ble_eq_true rfl) dL_law_1096 ⟨Nat.le_trans (Nat.le_refl _) hcc, Nat.le_trans (Nat.le_refl _) hss⟩ ?_
      refine lv_as (y := nI (0)) (congrArg nI hc2) ?_
      refine lv_iload hx hb dL_law_1099 (lv_at hl 1 rfl) ?_
      refine lv_icmp_eq (tgt := 1106) hx hb dL_law_1101 (by decide) (fun _ => ?_) (fun h9 => absurd rfl h9)
      refine lv_iload hx hb dL_law_1106 (lv_at hl 1 rfl) ?_
      refine n_if_ne (tgt := 1123) hx hb dL_law_1108 (by decide) (by decide) (fun h9 => absurd h9 (by decide)) (fun _ => ?_)
      refine lv_aload_n hx hb dL_law_1111 rfl (lv_at hl 3 rfl) ?_
      refine lv_iconst (v := nI 0) hx hb dL_law_1112 (by decide) ?_
      refine n_lald hx hb hK hP 20 3 rfl rfl dL_law_1113 ?_
      refine lv_iload hx hb dL_law_1114 (lv_at hl 0 rfl) ?_
      have hans : (sa (toldC sh ct ds K a3 a2) Ld (arrC NK NT a3 a2) 31 0 a1 tk0) = sa (toldR sh ct2 ds K a3 a2) Ld (arrC NK NT a3 a2) 31 0 a1 tk0 := sa_cong hR.hLd (hR.told _ _) 31 0 _ tk0 (by omega)
      refine lv_i2l (v := (sa (toldR sh ct2 ds K a3 a2) Ld (arrC NK NT a3 a2) 31 0 a1 tk0).toInt64) hx hb dL_law_1116 rfl ?_
      refine n_lcmpEq hx hb (congrArg Int32.toInt64 hans) dL_law_1117 ?_
      refine n_if_eq (tgt := 1123) hx hb dL_law_1118 (by decide) (by decide) (fun _ => ?_) (fun h9 => absurd h9 (by decide))
      refine lv_goto (tgt := 1298) hx hb dL_law_1123 (by decide) ?_
      refine hk H locs ls ?_ (lv_sub hl [2, 3, 4, 5, 6] rfl)
      exact lwI_mk (hR.walk hp8) hP hD hS
set_option maxHeartbeats 4000000 in
set_option maxRecDepth 100000 in
theorem lo_walkBySteps {p : Program} {l : Launch} {e : Env} {s : State} {m : MethodId} {below : List Frame} {meth : Method} {c : Code} {b L : Nat} {xs : Nat → Int32} {Q : State → Prop} {D : va_G} {cI cI2 cZ cJ : ClassId} {q q2 : Nat → Nat} {o : Nat} (hC : lwC p l s m meth c b L xs D cI cI2 cZ cJ) {i : Nat} (hi : i + 7 ≤ L) {cells slots : Nat} (hcc : cells + 8 ≤ room_1.cells) (hss : slots + 48 ≤ room_1.slots) {H : Heap} {locs : List Loc} (hI : lwI D cI q cI2 cZ q2 o cJ s H locs) {ls : Array Slot} (hl : lv_has ls 7 (lwL b q q2 o i)) (hk : ∀ (H : Heap) (locs : List Loc) (ls : Array Slot), lwI D cI q cI2 cZ q2 o cJ s H locs → lv_has ls 7 (lwL b q q2 o i) → W p l e room_1 s m #[Value.ref b] below meth c H locs (cells + 8) (slots + 48) Q (F0 m 1298 ls [])) : W p l e room_1 s m #[Value.ref b] below meth c H locs cells slots Q (F0 m 1126 ls []) := by
  obtain ⟨C0, hst, hex, hnc, hK, hL⟩ := hC
  obtain ⟨hx, hb, hr, hml, hown, hts0, hX, hbl, hlocks, hgv⟩ := id C0
  have hts : ∀ w ∈ wsL_law, w.before #[Value.ref b] s = true := fun w h => hts0 w (wsL_law_in w h)
  have hown : s.vm.findClass RL = some m.cls := hown
  have hbA : ¬ (fun a : Nat => s.heap.size ≤ a) b := Nat.not_le.mpr hbl
  obtain ⟨sh, sp, ld, nm, tx, ds, ct, co, kg, ks, th, nm2, nk, tx2, mn, ct2, st, at0, ha, tk, f, T, K, T2, Ld, NT, NK, hR, hP, hD, hS⟩ := hI
  have hl : lv_has ls 7 [(4, .int (nI i)), (3, .ref o), (2, .ref (q2 0)), (1, .ref (q 0)), (0, .ref b)] := hl
  refine lv_aload_n hx hb dL_law_1126 rfl (lv_at hl 3 rfl) ?_
  refine lv_aload_n hx hb dL_law_1127 rfl (lv_at hl 4 rfl) ?_
  refine lv_iload hx hb dL_law_1128 (lv_at hl 0 rfl) ?_
  refine lv_iconst (v := nI 1) hx hb dL_law_1130 (by decide) ?_
  refine lv_iadd hx hb dL_law_1131 ?_
  refine lv_as (y := nI (i + 1)) (nI_add _ _) ?_
  refine n_sld hx hb hX hbl hbA hS (k := i + 1) (by omega) (by omega) dL_law_1132 ?_
  refine lv_aload_n hx hb dL_law_1133 rfl (lv_at hl 4 rfl) ?_
  refine lv_iload hx hb dL_law_1134 (lv_at hl 0 rfl) ?_
  refine lv_iconst (v := nI 2) hx hb dL_law_1136 (by decide) ?_
  refine lv_iadd hx hb dL_law_1137 ?_
  refine lv_as (y := nI (i + 2)) (nI_add _ _) ?_
  refine n_sld hx hb hX hbl hbA hS (k := i + 2) (by omega) (by omega) dL_law_1138 ?_
  refine lv_aload_n hx hb dL_law_1139 rfl (lv_at hl 4 rfl) ?_
  refine lv_iload hx hb dL_law_1140 (lv_at hl 0 rfl) ?_
  refine lv_iconst (v := nI 3) hx hb dL_law_1142 (by decide) ?_
  refine lv_iadd hx hb dL_law_1143 ?_
  refine lv_as (y := nI (i + 3)) (nI_add _ _) ?_
  refine n_sld hx hb hX hbl hbA hS (k := i + 3) (by omega) (by omega) dL_law_1144 ?_
  refine lv_aload_n hx hb dL_law_1145 rfl (lv_at hl 1 rfl) ?_
  refine k_callTW (wr := (wm cI2 cZ q2 th sh sp ld nm2 nk tx2 mn ds ct2 co st at0 ha tk)) (As := [.ref (q 0), .int (xs (i + 1)), .int (xs (i + 2)), .int (xs (i + 3)), .ref o]) (rest := []) ⟨hx, hb, hml, hown, hts⟩ (c_L_walkBySteps l hst D cI q sh sp ld nm tx ds ct co kg ks (xs (i + 1)) (xs (i + 2)) (xs (i + 3)) T K hR.hG Ld hR.2.1 hR.1 NT NK hR.hN o cJ f (k_D_tt (hD.sub [0, 1, 2, 3, 4, 5, 6, 7, 8, 20] (by decide) rfl))) (vx_cwSW 5 hts gL_law_L_walkBySteps rfl rfl rfl (by decide +kernel) ⟨Nat.le_of_ble_eq_true rfl, Nat.le_of_ble_eq_true rfl⟩) (k_en_bl k_B_bl) (fun U hU hW => ⟨k_B_of (hP.sub [0, 1, 2, 3, 4, 5, 6, 7, 8, 20] rfl) (hK.sub [0, 3] rfl) U hU hW, k_ex_mv hex hS (fun a h => Nat.not_le.mpr h) U hU hW, k_nc_of hnc U hW⟩) rfl hl.1 rfl (Nat.le_of_ble_eq_true rfl) dL_law_1146 ⟨hcc, hss⟩ hP hD hS [9, 10, 11, 12, 13, 14, 15, 16, 17, 18, 19] [0, 1, 2, 3, 4, 5, 6, 7, 8, 20] rfl rfl (fun u => by cases u <;> rfl) (fun u H locs hu hP hD hS => ?_)
  have hcd : cd2 (inB (xs (i + 1)) 8) (txB (xs (i + 2)) (xs (i + 3))) = cd2 (inB (xs (i + 1)) 8) (txB (xs (i + 2)) (xs (i + 3))) := rfl
  rcases lw_or0 hu with ⟨rfl, hc⟩ | ⟨u1, rfl, hc, hpx⟩
  · skip
    have hP : va_P D vwCl (wx cI q sh sp ld nm tx ds ct co kg ks ++ wm cI2 cZ q2 th sh sp ld nm2 nk tx2 mn ds ct2 co st at0 ha tk ++ [wo o cJ f]) H := hP.sub [11, 12, 13, 14, 15, 16, 17, 18, 19, 0, 1, 2, 3, 4, 5, 6, 7, 8, 9, 10, 20] rfl
    have hD : va_D _ (wx cI q sh sp ld nm tx ds ct co kg ks ++ wm cI2 cZ q2 th sh sp ld nm2 nk tx2 mn ds ct2 co st at0 ha tk ++ [wo o cJ f]) := hD.sub [11, 12, 13, 14, 15, 16, 17, 18, 19, 0, 1, 2, 3, 4, 5, 6, 7, 8, 9, 10, 20] (by decide) rfl
    refine lv_istore (lv' := [(5, .int (nI (cd2 (inB (xs (i + 1)) 8) (txB (xs (i + 2)) (xs (i + 3)))))), (4, .int (nI i)), (3, .ref o), (2, .ref (q2 0)), (1, .ref (q 0)), (0, .ref b)]) hx hb dL_law_1149 hl (by decide) rfl (fun ls hl => ?_)
    refine lv_aload_n hx hb dL_law_1151 rfl (lv_at hl 3 rfl) ?_
    refine lv_aload_n hx hb dL_law_1152 rfl (lv_at hl 5 rfl) ?_
    refine lv_iload hx hb dL_law_1153 (lv_at hl 1 rfl) ?_
    refine lv_iconst (v := nI 1) hx hb dL_law_1155 (by decide) ?_
    refine lv_iadd hx hb dL_law_1156 ?_
    refine lv_as (y := nI (i + 1)) (nI_add _ _) ?_
    refine n_sld hx hb hX hbl hbA hS (k := i + 1) (by omega) (by omega) dL_law_1157 ?_
    refine lv_aload_n hx hb dL_law_1158 rfl (lv_at hl 5 rfl) ?_
    refine lv_iload hx hb dL_law_1159 (lv_at hl 1 rfl) ?_
    refine lv_iconst (v := nI 2) hx hb dL_law_1161 (by decide) ?_
    refine lv_iadd hx hb dL_law_1162 ?_
    refine lv_as (y := nI (i + 2)) (nI_add _ _) ?_
    refine n_sld hx hb hX hbl hbA hS (k := i + 2) (by omega) (by omega) dL_law_1163 ?_
    refine lv_aload_n hx hb dL_law_1164 rfl (lv_at hl 5 rfl) ?_
    refine lv_iload hx hb dL_law_1165 (lv_at hl 1 rfl) ?_
    refine lv_iconst (v := nI 3) hx hb dL_law_1167 (by decide) ?_
    refine lv_iadd hx hb dL_law_1168 ?_
    refine lv_as (y := nI (i + 3)) (nI_add _ _) ?_
    refine n_sld hx hb hX hbl hbA hS (k := i + 3) (by omega) (by omega) dL_law_1169 ?_
    refine k_callVW (wr := (wx cI q sh sp ld nm tx ds ct co kg ks ++ [wo o cJ f])) (As := [.int (xs (i + 1)), .int (xs (i + 2)), .int (xs (i + 3))]) (rest := []) ⟨hx, hb, hml, hown, hts⟩ (c_X1_walkBySteps l D cI2 cZ q2 th sh sp ld nm2 nk tx2 mn ds ct2 co st at0 ha tk (xs (i + 1)) (xs (i + 2)) (xs (i + 3)) K Ld hR.hGk hR.2.1 NT NK hR.hN2 (k_D_tt (hD.sub [9, 10, 11, 12, 13, 14, 15, 16, 17, 18, 19] (by decide) rfl))) (cwV 3 hts gL_law_X1_walkBySteps rfl rfl rfl (by decide +kernel) ⟨Nat.le_of_ble_eq_true rfl, Nat.le_of_ble_eq_true rfl⟩) k_B_bl (k_B_of (hP.sub [9, 10, 11, 12, 13, 14, 15, 16, 17, 18, 19] rfl) (hK.sub [1, 2] rfl)) (va_recv hK hP (ci := 1) (q0 := 9) rfl rfl) rfl hl.1 rfl (Nat.le_of_ble_eq_true rfl) dL_law_1170 ⟨hcc, hss⟩ hP hD hS [0, 1, 2, 3, 4, 5, 6, 7, 8, 20] [9, 10, 11, 12, 13, 14, 15, 16, 17, 18, 19] rfl rfl (fun _ => rfl) (fun v H locs hv hP hD hS _ _ => ?_)
    obtain ⟨v1, vo⟩ := v
    obtain ⟨hv1, hv2⟩ := hv
    rcases lw_or0 hv2 with ⟨hvo, hc2⟩ | ⟨v2, hvo, hc2, hv3⟩
    · skip
      have hv1 : v1 = nI (cd2 (inB (xs (i + 1)) 8) (txB (xs (i + 2)) (xs (i + 3)))) := hv1
      have hvo : vo = _ := hvo
      subst hvo
      subst hv1
      have hP : va_P D vwCl (wx cI q sh sp ld nm tx ds ct co kg ks ++ (wm cI2 cZ q2 (nI (cd2 (inB (xs (i + 1)) 8) (txB (xs (i + 2)) (xs (i + 3))))) sh sp ld nm2 nk tx2 mn ds ct2 co st at0 ha tk) ++ [wo o cJ f]) H := hP.sub [0, 1, 2, 3, 4, 5, 6, 7, 8, 10, 11, 12, 13, 14, 15, 16, 17, 18, 19, 20, 9] rfl
      have hD : va_D _ (wx cI q sh sp ld nm tx ds ct co kg ks ++ (wm cI2 cZ q2 (nI (cd2 (inB (xs (i + 1)) 8) (txB (xs (i + 2)) (xs (i + 3))))) sh sp ld nm2 nk tx2 mn ds ct2 co st at0 ha tk) ++ [wo o cJ f]) := hD.sub [0, 1, 2, 3, 4, 5, 6, 7, 8, 10, 11, 12, 13, 14, 15, 16, 17, 18, 19, 20, 9] (by decide) rfl
      refine lv_istore (lv' := [(6, .int (nI 0)), (5, .int (nI (cd2 (inB (xs (i + 1)) 8) (txB (xs (i + 2)) (xs (i + 3)))))), (4, .int (nI i)), (3, .ref o), (2, .ref (q2 0)), (1, .ref (q 0)), (0, .ref b)]) hx hb dL_law_1173 hl (by decide) rfl (fun ls hl => ?_)
      refine lv_aload_n hx hb dL_law_1175 rfl (lv_at hl 4 rfl) ?_
      refine k_callVi (As := []) (rest := []) ⟨hx, hb, hml, hown, hts⟩ (c_X1_thrown l D cI2 cZ q2 (nI (cd2 (inB (xs (i + 1)) 8) (txB (xs (i + 2)) (xs (i + 3))))) sh sp ld nm2 nk tx2 mn ds ct2 co st at0 ha tk) (cwV 0 hts gL_law_X1_thrown rfl rfl rfl (by decide +kernel) ⟨Nat.le_of_ble_eq_true rfl, Nat.le_of_ble_eq_true rfl⟩) k_B_bl (k_B_of (hP.sub [9, 10, 11, 12, 13, 14, 15, 16, 17, 18, 19] rfl) (hK.sub [1, 2] rfl)) (va_recv hK hP (ci := 1) (q0 := 9) rfl rfl) rfl hl.1 rfl (Nat.le_of_ble_eq_true rfl) dL_law_1176 ⟨Nat.le_trans (Nat.le_refl _) hcc, Nat.le_trans (Nat.le_refl _) hss⟩ ?_
      refine lv_as (y := nI (cd2 (inB (xs (i + 1)) 8) (txB (xs (i + 2)) (xs (i + 3))))) (congrArg nI hcd) ?_
      refine lv_iload hx hb dL_law_1179 (lv_at hl 1 rfl) ?_
      refine lv_icmp_eq (tgt := 1186) hx hb dL_law_1181 (by decide) (fun _ => ?_) (fun h9 => absurd rfl h9)
      refine lv_iload hx hb dL_law_1186 (lv_at hl 1 rfl) ?_
      refine n_if_ne (tgt := 1203) hx hb dL_law_1188 (by decide) (cd2_le _ _) (fun _ => ?_) (fun h9 => absurd h9 hc)
      refine lv_goto (tgt := 1298) hx hb dL_law_1203 (by decide) ?_
      refine hk H locs ls ?_ (lv_sub hl [2, 3, 4, 5, 6] rfl)
      exact lwI_mk (hR) hP hD hS
    · exact absurd (hcd.symm.trans hc2) hc
  · skip
    obtain ⟨a1, a2, a3⟩ := u1
    obtain ⟨hp1, hp2, hp3, hp4, hp5, hp6, hp7⟩ := hpx
    have hp1 : a1 < 8 := hp1
    have hp2 : (xs (i + 1)) = nI a1 := hp2
    have hp3 : 1 ≤ a3 := hp3
    have hp4 : a3 ≤ 5 := hp4
    have hp5 : a2 < 8 ^ a3 := hp5
    have hp6 : (xs (i + 2)) = nI a2 := hp6
    have hp7 : (xs (i + 3)) = nI a3 := hp7
    have hP : va_P D vwCl (wx cI q sh sp ld nm tx ds ct co kg ks ++ wm cI2 cZ q2 th sh sp ld nm2 nk tx2 mn ds ct2 co st at0 ha tk ++ [wo o cJ (vp_updL f 0 ((sa (toldC sh ct ds K a3 a2) Ld (arrC NK NT a3 a2) 31 0 a1 tk0).toInt64))]) H := hP.sub [11, 12, 13, 14, 15, 16, 17, 18, 19, 0, 1, 2, 3, 4, 5, 6, 7, 8, 9, 10, 20] rfl
    have hD : va_D _ (wx cI q sh sp ld nm tx ds ct co kg ks ++ wm cI2 cZ q2 th sh sp ld nm2 nk tx2 mn ds ct2 co st at0 ha tk ++ [wo o cJ (vp_updL f 0 ((sa (toldC sh ct ds K a3 a2) Ld (arrC NK NT a3 a2) 31 0 a1 tk0).toInt64))]) := hD.sub [11, 12, 13, 14, 15, 16, 17, 18, 19, 0, 1, 2, 3, 4, 5, 6, 7, 8, 9, 10, 20] (by decide) rfl
    refine lv_istore (lv' := [(5, .int (nI (0))), (4, .int (nI i)), (3, .ref o), (2, .ref (q2 0)), (1, .ref (q 0)), (0, .ref b)]) hx hb dL_law_1149 hl (by decide) rfl (fun ls hl => ?_)
    refine lv_aload_n hx hb dL_law_1151 rfl (lv_at hl 3 rfl) ?_
    refine lv_aload_n hx hb dL_law_1152 rfl (lv_at hl 5 rfl) ?_
    refine lv_iload hx hb dL_law_1153 (lv_at hl 1 rfl) ?_
    refine lv_iconst (v := nI 1) hx hb dL_law_1155 (by decide) ?_
    refine lv_iadd hx hb dL_law_1156 ?_
    refine lv_as (y := nI (i + 1)) (nI_add _ _) ?_
    refine n_sld hx hb hX hbl hbA hS (k := i + 1) (by omega) (by omega) dL_law_1157 ?_
    refine lv_aload_n hx hb dL_law_1158 rfl (lv_at hl 5 rfl) ?_
    refine lv_iload hx hb dL_law_1159 (lv_at hl 1 rfl) ?_
    refine lv_iconst (v := nI 2) hx hb dL_law_1161 (by decide) ?_
    refine lv_iadd hx hb dL_law_1162 ?_
    refine lv_as (y := nI (i + 2)) (nI_add _ _) ?_
    refine n_sld hx hb hX hbl hbA hS (k := i + 2) (by omega) (by omega) dL_law_1163 ?_
    refine lv_aload_n hx hb dL_law_1164 rfl (lv_at hl 5 rfl) ?_
    refine lv_iload hx hb dL_law_1165 (lv_at hl 1 rfl) ?_
    refine lv_iconst (v := nI 3) hx hb dL_law_1167 (by decide) ?_
    refine lv_iadd hx hb dL_law_1168 ?_
    refine lv_as (y := nI (i + 3)) (nI_add _ _) ?_
    refine n_sld hx hb hX hbl hbA hS (k := i + 3) (by omega) (by omega) dL_law_1169 ?_
    refine k_callVW (wr := (wx cI q sh sp ld nm tx ds ct co kg ks ++ [wo o cJ (vp_updL f 0 ((sa (toldC sh ct ds K a3 a2) Ld (arrC NK NT a3 a2) 31 0 a1 tk0).toInt64))])) (As := [.int (xs (i + 1)), .int (xs (i + 2)), .int (xs (i + 3))]) (rest := []) ⟨hx, hb, hml, hown, hts⟩ (c_X1_walkBySteps l D cI2 cZ q2 th sh sp ld nm2 nk tx2 mn ds ct2 co st at0 ha tk (xs (i + 1)) (xs (i + 2)) (xs (i + 3)) K Ld hR.hGk hR.2.1 NT NK hR.hN2 (k_D_tt (hD.sub [9, 10, 11, 12, 13, 14, 15, 16, 17, 18, 19] (by decide) rfl))) (cwV 3 hts gL_law_X1_walkBySteps rfl rfl rfl (by decide +kernel) ⟨Nat.le_of_ble_eq_true rfl, Nat.le_of_ble_eq_true rfl⟩) k_B_bl (k_B_of (hP.sub [9, 10, 11, 12, 13, 14, 15, 16, 17, 18, 19] rfl) (hK.sub [1, 2] rfl)) (va_recv hK hP (ci := 1) (q0 := 9) rfl rfl) rfl hl.1 rfl (Nat.le_of_ble_eq_true rfl) dL_law_1170 ⟨hcc, hss⟩ hP hD hS [0, 1, 2, 3, 4, 5, 6, 7, 8, 20] [9, 10, 11, 12, 13, 14, 15, 16, 17, 18, 19] rfl rfl (fun _ => rfl) (fun v H locs hv hP hD hS _ _ => ?_)
    obtain ⟨v1, vo⟩ := v
    obtain ⟨hv1, hv2⟩ := hv
    rcases lw_or0 hv2 with ⟨hvo, hc2⟩ | ⟨v2, hvo, hc2, hv3⟩
    · exact absurd (hcd.trans hc) hc2
    · skip
      have hv1 : v1 = nI (cd2 (inB (xs (i + 1)) 8) (txB (xs (i + 2)) (xs (i + 3)))) := hv1
      have hvo : vo = _ := hvo
      subst hvo
      subst hv1
      obtain ⟨⟨b1, b2, b3⟩, b4, b5, b6, b7⟩ := v2
      obtain ⟨hq1, hq2, hq3, hq4, hq5, hq6, hq7⟩ := hv3
      have hq1 : b1 < 8 := hq1
      have hq2 : (xs (i + 1)) = nI b1 := hq2
      have hq3 : 1 ≤ b3 := hq3
      have hq4 : b3 ≤ 5 := hq4
      have hq5 : b2 < 8 ^ b3 := hq5
      have hq6 : (xs (i + 2)) = nI b2 := hq6
      have hq7 : (xs (i + 3)) = nI b3 := hq7
      have zhp4 := p8_le hp4
      have zhq4 := p8_le hq4
      have hab : a1 = b1 := nI_inj (by omega) (by omega) (hp2.symm.trans hq2)
      subst hab
      have hab : a2 = b2 := nI_inj (by omega) (by omega) (hp6.symm.trans hq6)
      subst hab
      have hab : a3 = b3 := nI_inj (by omega) (by omega) (hp7.symm.trans hq7)
      subst hab
      have hP : va_P D vwCl (wx cI q sh sp ld nm tx ds ct co kg ks ++ (wm cI2 cZ q2 (nI (cd2 (inB (xs (i + 1)) 8) (txB (xs (i + 2)) (xs (i + 3))))) sh sp ld nm2 nk tx2 mn ds ct2 co b5 b6 b7 b4) ++ [wo o cJ (vp_updL f 0 ((sa (toldC sh ct ds K a3 a2) Ld (arrC NK NT a3 a2) 31 0 a1 tk0).toInt64))]) H := hP.sub [0, 1, 2, 3, 4, 5, 6, 7, 8, 10, 11, 12, 13, 14, 15, 16, 17, 18, 19, 20, 9] rfl
      have hD : va_D _ (wx cI q sh sp ld nm tx ds ct co kg ks ++ (wm cI2 cZ q2 (nI (cd2 (inB (xs (i + 1)) 8) (txB (xs (i + 2)) (xs (i + 3))))) sh sp ld nm2 nk tx2 mn ds ct2 co b5 b6 b7 b4) ++ [wo o cJ (vp_updL f 0 ((sa (toldC sh ct ds K a3 a2) Ld (arrC NK NT a3 a2) 31 0 a1 tk0).toInt64))]) := hD.sub [0, 1, 2, 3, 4, 5, 6, 7, 8, 10, 11, 12, 13, 14, 15, 16, 17, 18, 19, 20, 9] (by decide) rfl
      refine lv_istore (lv' := [(6, .int (sa (toldR sh ct2 ds K a3 a2) Ld (arrC NK NT a3 a2) 31 0 a1 tk0)), (5, .int (nI (0))), (4, .int (nI i)), (3, .ref o), (2, .ref (q2 0)), (1, .ref (q 0)), (0, .ref b)]) hx hb dL_law_1173 hl (by decide) rfl (fun ls hl => ?_)
      refine lv_aload_n hx hb dL_law_1175 rfl (lv_at hl 4 rfl) ?_
      refine k_callVi (As := []) (rest := []) ⟨hx, hb, hml, hown, hts⟩ (c_X1_thrown l D cI2 cZ q2 (nI (cd2 (inB (xs (i + 1)) 8) (txB (xs (i + 2)) (xs (i + 3))))) sh sp ld nm2 nk tx2 mn ds ct2 co b5 b6 b7 b4) (cwV 0 hts gL_law_X1_thrown rfl rfl rfl (by decide +kernel) ⟨Nat.le_of_ble_eq_true rfl, Nat.le_of_ble_eq_true rfl⟩) k_B_bl (k_B_of (hP.sub [9, 10, 11, 12, 13, 14, 15, 16, 17, 18, 19] rfl) (hK.sub [1, 2] rfl)) (va_recv hK hP (ci := 1) (q0 := 9) rfl rfl) rfl hl.1 rfl (Nat.le_of_ble_eq_true rfl) dL_law_1176 ⟨Nat.le_trans (Nat.le_refl _) hcc, Nat.le_trans (Nat.le_refl _) hss⟩ ?_
      refine lv_as (y := nI (0)) (congrArg nI hc2) ?_
      refine lv_iload hx hb dL_law_1179 (lv_at hl 1 rfl) ?_
      refine lv_icmp_eq (tgt := 1186) hx hb dL_law_1181 (by decide) (fun _ => ?_) (fun h9 => absurd rfl h9)
      refine lv_iload hx hb dL_law_1186 (lv_at hl 1 rfl) ?_
      refine n_if_ne (tgt := 1203) hx hb dL_law_1188 (by decide) (by decide) (fun h9 => absurd h9 (by decide)) (fun _ => ?_)
      refine lv_aload_n hx hb dL_law_1191 rfl (lv_at hl 3 rfl) ?_
      refine lv_iconst (v := nI 0) hx hb dL_law_1192 (by decide) ?_
      refine n_lald hx hb hK hP 20 3 rfl rfl dL_law_1193 ?_
      refine lv_iload hx hb dL_law_1194 (lv_at hl 0 rfl) ?_
      have hans : (sa (toldC sh ct ds K a3 a2) Ld (arrC NK NT a3 a2) 31 0 a1 tk0) = sa (toldR sh ct2 ds K a3 a2) Ld (arrC NK NT a3 a2) 31 0 a1 tk0 := sa_cong hR.hLd (hR.told _ _) 31 0 _ tk0 (by omega)
      refine lv_i2l (v := (sa (toldR sh ct2 ds K a3 a2) Ld (arrC NK NT a3 a2) 31 0 a1 tk0).toInt64) hx hb dL_law_1196 rfl ?_
      refine n_lcmpEq hx hb (congrArg Int32.toInt64 hans) dL_law_1197 ?_
      refine n_if_eq (tgt := 1203) hx hb dL_law_1198 (by decide) (by decide) (fun _ => ?_) (fun h9 => absurd h9 (by decide))
      refine lv_goto (tgt := 1298) hx hb dL_law_1203 (by decide) ?_
      refine hk H locs ls ?_ (lv_sub hl [2, 3, 4, 5, 6] rfl)
      exact lwI_mk (hR) hP hD hS
set_option maxHeartbeats 4000000 in
set_option maxRecDepth 100000 in
theorem lo_placeBehind {p : Program} {l : Launch} {e : Env} {s : State} {m : MethodId} {below : List Frame} {meth : Method} {c : Code} {b L : Nat} {xs : Nat → Int32} {Q : State → Prop} {D : va_G} {cI cI2 cZ cJ : ClassId} {q q2 : Nat → Nat} {o : Nat} (hC : lwC p l s m meth c b L xs D cI cI2 cZ cJ) {i : Nat} (hi : i + 7 ≤ L) {cells slots : Nat} (hcc : cells + 8 ≤ room_1.cells) (hss : slots + 48 ≤ room_1.slots) {H : Heap} {locs : List Loc} (hI : lwI D cI q cI2 cZ q2 o cJ s H locs) {ls : Array Slot} (hl : lv_has ls 7 (lwL b q q2 o i)) (hk : ∀ (H : Heap) (locs : List Loc) (ls : Array Slot), lwI D cI q cI2 cZ q2 o cJ s H locs → lv_has ls 7 (lwL b q q2 o i) → W p l e room_1 s m #[Value.ref b] below meth c H locs (cells + 8) (slots + 48) Q (F0 m 1298 ls [])) : W p l e room_1 s m #[Value.ref b] below meth c H locs cells slots Q (F0 m 1206 ls []) := by
  obtain ⟨C0, hst, hex, hnc, hK, hL⟩ := hC
  obtain ⟨hx, hb, hr, hml, hown, hts0, hX, hbl, hlocks, hgv⟩ := id C0
  have hts : ∀ w ∈ wsL_law, w.before #[Value.ref b] s = true := fun w h => hts0 w (wsL_law_in w h)
  have hown : s.vm.findClass RL = some m.cls := hown
  have hbA : ¬ (fun a : Nat => s.heap.size ≤ a) b := Nat.not_le.mpr hbl
  obtain ⟨sh, sp, ld, nm, tx, ds, ct, co, kg, ks, th, nm2, nk, tx2, mn, ct2, st, at0, ha, tk, f, T, K, T2, Ld, NT, NK, hR, hP, hD, hS⟩ := hI
  have hl : lv_has ls 7 [(4, .int (nI i)), (3, .ref o), (2, .ref (q2 0)), (1, .ref (q 0)), (0, .ref b)] := hl
  refine lv_aload_n hx hb dL_law_1206 rfl (lv_at hl 3 rfl) ?_
  refine lv_aload_n hx hb dL_law_1207 rfl (lv_at hl 4 rfl) ?_
  refine lv_iload hx hb dL_law_1208 (lv_at hl 0 rfl) ?_
  refine lv_iconst (v := nI 1) hx hb dL_law_1210 (by decide) ?_
  refine lv_iadd hx hb dL_law_1211 ?_
  refine lv_as (y := nI (i + 1)) (nI_add _ _) ?_
  refine n_sld hx hb hX hbl hbA hS (k := i + 1) (by omega) (by omega) dL_law_1212 ?_
  refine lv_aload_n hx hb dL_law_1213 rfl (lv_at hl 4 rfl) ?_
  refine lv_iload hx hb dL_law_1214 (lv_at hl 0 rfl) ?_
  refine lv_iconst (v := nI 2) hx hb dL_law_1216 (by decide) ?_
  refine lv_iadd hx hb dL_law_1217 ?_
  refine lv_as (y := nI (i + 2)) (nI_add _ _) ?_
  refine n_sld hx hb hX hbl hbA hS (k := i + 2) (by omega) (by omega) dL_law_1218 ?_
  refine lv_aload_n hx hb dL_law_1219 rfl (lv_at hl 4 rfl) ?_
  refine lv_iload hx hb dL_law_1220 (lv_at hl 0 rfl) ?_
  refine lv_iconst (v := nI 3) hx hb dL_law_1222 (by decide) ?_
  refine lv_iadd hx hb dL_law_1223 ?_
  refine lv_as (y := nI (i + 3)) (nI_add _ _) ?_
  refine n_sld hx hb hX hbl hbA hS (k := i + 3) (by omega) (by omega) dL_law_1224 ?_
  refine lv_aload_n hx hb dL_law_1225 rfl (lv_at hl 4 rfl) ?_
  refine lv_iload hx hb dL_law_1226 (lv_at hl 0 rfl) ?_
  refine lv_iconst (v := nI 4) hx hb dL_law_1228 (by decide) ?_
  refine lv_iadd hx hb dL_law_1229 ?_
  refine lv_as (y := nI (i + 4)) (nI_add _ _) ?_
  refine n_sld hx hb hX hbl hbA hS (k := i + 4) (by omega) (by omega) dL_law_1230 ?_
  refine lv_aload_n hx hb dL_law_1231 rfl (lv_at hl 1 rfl) ?_
  refine k_callTW (wr := (wm cI2 cZ q2 th sh sp ld nm2 nk tx2 mn ds ct2 co st at0 ha tk)) (As := [.ref (q 0), .int (xs (i + 1)), .int (xs (i + 2)), .int (xs (i + 3)), .int (xs (i + 4)), .ref o]) (rest := []) ⟨hx, hb, hml, hown, hts⟩ (c_L_placeBehind l hst D cI q sh sp ld nm tx ds ct co kg ks (xs (i + 1)) (xs (i + 2)) (xs (i + 3)) (xs (i + 4)) T K hR.hG Ld hR.2.1 hR.1 NT NK hR.hN o cJ f (k_D_tt (hD.sub [0, 1, 2, 3, 4, 5, 6, 7, 8, 20] (by decide) rfl))) (vx_cwSW 6 hts gL_law_L_placeBehind rfl rfl rfl (by decide +kernel) ⟨Nat.le_of_ble_eq_true rfl, Nat.le_of_ble_eq_true rfl⟩) (k_en_bl k_B_bl) (fun U hU hW => ⟨k_B_of (hP.sub [0, 1, 2, 3, 4, 5, 6, 7, 8, 20] rfl) (hK.sub [0, 3] rfl) U hU hW, k_ex_mv hex hS (fun a h => Nat.not_le.mpr h) U hU hW, k_nc_of hnc U hW⟩) rfl hl.1 rfl (Nat.le_of_ble_eq_true rfl) dL_law_1232 ⟨hcc, hss⟩ hP hD hS [9, 10, 11, 12, 13, 14, 15, 16, 17, 18, 19] [0, 1, 2, 3, 4, 5, 6, 7, 8, 20] rfl rfl (fun u => by cases u <;> rfl) (fun u H locs hu hP hD hS => ?_)
  have hcd : cd2 (inB (xs (i + 1)) 8) (txB (xs (i + 2)) (xs (i + 3)) && inB (xs (i + 4)) 31) = cd2 (inB (xs (i + 1)) 8) (txB (xs (i + 2)) (xs (i + 3)) && inB (xs (i + 4)) 31) := rfl
  rcases lw_or0 hu with ⟨rfl, hc⟩ | ⟨u1, rfl, hc, hpx⟩
  · skip
    have hP : va_P D vwCl (wx cI q sh sp ld nm tx ds ct co kg ks ++ wm cI2 cZ q2 th sh sp ld nm2 nk tx2 mn ds ct2 co st at0 ha tk ++ [wo o cJ f]) H := hP.sub [11, 12, 13, 14, 15, 16, 17, 18, 19, 0, 1, 2, 3, 4, 5, 6, 7, 8, 9, 10, 20] rfl
    have hD : va_D _ (wx cI q sh sp ld nm tx ds ct co kg ks ++ wm cI2 cZ q2 th sh sp ld nm2 nk tx2 mn ds ct2 co st at0 ha tk ++ [wo o cJ f]) := hD.sub [11, 12, 13, 14, 15, 16, 17, 18, 19, 0, 1, 2, 3, 4, 5, 6, 7, 8, 9, 10, 20] (by decide) rfl
    refine lv_istore (lv' := [(5, .int (nI (cd2 (inB (xs (i + 1)) 8) (txB (xs (i + 2)) (xs (i + 3)) && inB (xs (i + 4)) 31)))), (4, .int (nI i)), (3, .ref o), (2, .ref (q2 0)), (1, .ref (q 0)), (0, .ref b)]) hx hb dL_law_1235 hl (by decide) rfl (fun ls hl => ?_)
    refine lv_aload_n hx hb dL_law_1237 rfl (lv_at hl 3 rfl) ?_
    refine lv_aload_n hx hb dL_law_1238 rfl (lv_at hl 5 rfl) ?_
    refine lv_iload hx hb dL_law_1239 (lv_at hl 1 rfl) ?_
    refine lv_iconst (v := nI 1) hx hb dL_law_1241 (by decide) ?_
    refine lv_iadd hx hb dL_law_1242 ?_
    refine lv_as (y := nI (i + 1)) (nI_add _ _) ?_
    refine n_sld hx hb hX hbl hbA hS (k := i + 1) (by omega) (by omega) dL_law_1243 ?_
    refine lv_aload_n hx hb dL_law_1244 rfl (lv_at hl 5 rfl) ?_
    refine lv_iload hx hb dL_law_1245 (lv_at hl 1 rfl) ?_
    refine lv_iconst (v := nI 2) hx hb dL_law_1247 (by decide) ?_
    refine lv_iadd hx hb dL_law_1248 ?_
    refine lv_as (y := nI (i + 2)) (nI_add _ _) ?_
    refine n_sld hx hb hX hbl hbA hS (k := i + 2) (by omega) (by omega) dL_law_1249 ?_
    refine lv_aload_n hx hb dL_law_1250 rfl (lv_at hl 5 rfl) ?_
    refine lv_iload hx hb dL_law_1251 (lv_at hl 1 rfl) ?_
    refine lv_iconst (v := nI 3) hx hb dL_law_1253 (by decide) ?_
    refine lv_iadd hx hb dL_law_1254 ?_
    refine lv_as (y := nI (i + 3)) (nI_add _ _) ?_
    refine n_sld hx hb hX hbl hbA hS (k := i + 3) (by omega) (by omega) dL_law_1255 ?_
    refine lv_aload_n hx hb dL_law_1256 rfl (lv_at hl 5 rfl) ?_
    refine lv_iload hx hb dL_law_1257 (lv_at hl 1 rfl) ?_
    refine lv_iconst (v := nI 4) hx hb dL_law_1259 (by decide) ?_
    refine lv_iadd hx hb dL_law_1260 ?_
    refine lv_as (y := nI (i + 4)) (nI_add _ _) ?_
    refine n_sld hx hb hX hbl hbA hS (k := i + 4) (by omega) (by omega) dL_law_1261 ?_
    refine k_callVW (wr := (wx cI q sh sp ld nm tx ds ct co kg ks ++ [wo o cJ f])) (As := [.int (xs (i + 1)), .int (xs (i + 2)), .int (xs (i + 3)), .int (xs (i + 4))]) (rest := []) ⟨hx, hb, hml, hown, hts⟩ (c_X1_placeBehind l D cI2 cZ q2 th sh sp ld nm2 nk tx2 mn ds ct2 co st at0 ha tk (xs (i + 1)) (xs (i + 2)) (xs (i + 3)) (xs (i + 4)) K Ld hR.hGk hR.2.1 NT NK hR.hN2 (k_D_tt (hD.sub [9, 10, 11, 12, 13, 14, 15, 16, 17, 18, 19] (by decide) rfl))) (cwV 4 hts gL_law_X1_placeBehind rfl rfl rfl (by decide +kernel) ⟨Nat.le_of_ble_eq_true rfl, Nat.le_of_ble_eq_true rfl⟩) k_B_bl (k_B_of (hP.sub [9, 10, 11, 12, 13, 14, 15, 16, 17, 18, 19] rfl) (hK.sub [1, 2] rfl)) (va_recv hK hP (ci := 1) (q0 := 9) rfl rfl) rfl hl.1 rfl (Nat.le_of_ble_eq_true rfl) dL_law_1262 ⟨hcc, hss⟩ hP hD hS [0, 1, 2, 3, 4, 5, 6, 7, 8, 20] [9, 10, 11, 12, 13, 14, 15, 16, 17, 18, 19] rfl rfl (fun _ => rfl) (fun v H locs hv hP hD hS _ _ => ?_)
    obtain ⟨v1, vo⟩ := v
    obtain ⟨hv1, hv2⟩ := hv
    rcases lw_or0 hv2 with ⟨hvo, hc2⟩ | ⟨v2, hvo, hc2, hv3⟩
    · skip
      have hv1 : v1 = nI (cd2 (inB (xs (i + 1)) 8) (txB (xs (i + 2)) (xs (i + 3)) && inB (xs (i + 4)) 31)) := hv1
      have hvo : vo = _ := hvo
      subst hvo
      subst hv1
      have hP : va_P D vwCl (wx cI q sh sp ld nm tx ds ct co kg ks ++ (wm cI2 cZ q2 (nI (cd2 (inB (xs (i + 1)) 8) (txB (xs (i + 2)) (xs (i + 3)) && inB (xs (i + 4)) 31))) sh sp ld nm2 nk tx2 mn ds ct2 co st at0 ha tk) ++ [wo o cJ f]) H := hP.sub [0, 1, 2, 3, 4, 5, 6, 7, 8, 10, 11, 12, 13, 14, 15, 16, 17, 18, 19, 20, 9] rfl
      have hD : va_D _ (wx cI q sh sp ld nm tx ds ct co kg ks ++ (wm cI2 cZ q2 (nI (cd2 (inB (xs (i + 1)) 8) (txB (xs (i + 2)) (xs (i + 3)) && inB (xs (i + 4)) 31))) sh sp ld nm2 nk tx2 mn ds ct2 co st at0 ha tk) ++ [wo o cJ f]) := hD.sub [0, 1, 2, 3, 4, 5, 6, 7, 8, 10, 11, 12, 13, 14, 15, 16, 17, 18, 19, 20, 9] (by decide) rfl
      refine lv_istore (lv' := [(6, .int (nI 0)), (5, .int (nI (cd2 (inB (xs (i + 1)) 8) (txB (xs (i + 2)) (xs (i + 3)) && inB (xs (i + 4)) 31)))), (4, .int (nI i)), (3, .ref o), (2, .ref (q2 0)), (1, .ref (q 0)), (0, .ref b)]) hx hb dL_law_1265 hl (by decide) rfl (fun ls hl => ?_)
      refine lv_aload_n hx hb dL_law_1267 rfl (lv_at hl 4 rfl) ?_
      refine k_callVi (As := []) (rest := []) ⟨hx, hb, hml, hown, hts⟩ (c_X1_thrown l D cI2 cZ q2 (nI (cd2 (inB (xs (i + 1)) 8) (txB (xs (i + 2)) (xs (i + 3)) && inB (xs (i + 4)) 31))) sh sp ld nm2 nk tx2 mn ds ct2 co st at0 ha tk) (cwV 0 hts gL_law_X1_thrown rfl rfl rfl (by decide +kernel) ⟨Nat.le_of_ble_eq_true rfl, Nat.le_of_ble_eq_true rfl⟩) k_B_bl (k_B_of (hP.sub [9, 10, 11, 12, 13, 14, 15, 16, 17, 18, 19] rfl) (hK.sub [1, 2] rfl)) (va_recv hK hP (ci := 1) (q0 := 9) rfl rfl) rfl hl.1 rfl (Nat.le_of_ble_eq_true rfl) dL_law_1268 ⟨Nat.le_trans (Nat.le_refl _) hcc, Nat.le_trans (Nat.le_refl _) hss⟩ ?_
      refine lv_as (y := nI (cd2 (inB (xs (i + 1)) 8) (txB (xs (i + 2)) (xs (i + 3)) && inB (xs (i + 4)) 31))) (congrArg nI hcd) ?_
      refine lv_iload hx hb dL_law_1271 (lv_at hl 1 rfl) ?_
      refine lv_icmp_eq (tgt := 1278) hx hb dL_law_1273 (by decide) (fun _ => ?_) (fun h9 => absurd rfl h9)
      refine lv_iload hx hb dL_law_1278 (lv_at hl 1 rfl) ?_
      refine n_if_ne (tgt := 1295) hx hb dL_law_1280 (by decide) (cd2_le _ _) (fun _ => ?_) (fun h9 => absurd h9 hc)
      refine lv_goto (tgt := 1298) hx hb dL_law_1295 (by decide) ?_
      refine hk H locs ls ?_ (lv_sub hl [2, 3, 4, 5, 6] rfl)
      exact lwI_mk (hR) hP hD hS
    · exact absurd (hcd.symm.trans hc2) hc
  · skip
    obtain ⟨a1, a2, a3, a4⟩ := u1
    obtain ⟨hp1, hp2, hp3, hp4, hp5, hp6, hp7, hp8, hp9⟩ := hpx
    have hp1 : a1 < 8 := hp1
    have hp2 : (xs (i + 1)) = nI a1 := hp2
    have hp3 : 1 ≤ a3 := hp3
    have hp4 : a3 ≤ 5 := hp4
    have hp5 : a2 < 8 ^ a3 := hp5
    have hp6 : (xs (i + 2)) = nI a2 := hp6
    have hp7 : (xs (i + 3)) = nI a3 := hp7
    have hp8 : a4 < 31 := hp8
    have hp9 : (xs (i + 4)) = nI a4 := hp9
    have hP : va_P D vwCl (wx cI q sh sp ld nm tx ds ct co kg ks ++ wm cI2 cZ q2 th sh sp ld nm2 nk tx2 mn ds ct2 co st at0 ha tk ++ [wo o cJ (vp_updL f 0 ((nI (pl (toldC sh ct ds K a3 a2) Ld (arrC NK NT a3 a2) a4 a1 tk0)).toInt64))]) H := hP.sub [11, 12, 13, 14, 15, 16, 17, 18, 19, 0, 1, 2, 3, 4, 5, 6, 7, 8, 9, 10, 20] rfl
    have hD : va_D _ (wx cI q sh sp ld nm tx ds ct co kg ks ++ wm cI2 cZ q2 th sh sp ld nm2 nk tx2 mn ds ct2 co st at0 ha tk ++ [wo o cJ (vp_updL f 0 ((nI (pl (toldC sh ct ds K a3 a2) Ld (arrC NK NT a3 a2) a4 a1 tk0)).toInt64))]) := hD.sub [11, 12, 13, 14, 15, 16, 17, 18, 19, 0, 1, 2, 3, 4, 5, 6, 7, 8, 9, 10, 20] (by decide) rfl
    refine lv_istore (lv' := [(5, .int (nI (0))), (4, .int (nI i)), (3, .ref o), (2, .ref (q2 0)), (1, .ref (q 0)), (0, .ref b)]) hx hb dL_law_1235 hl (by decide) rfl (fun ls hl => ?_)
    refine lv_aload_n hx hb dL_law_1237 rfl (lv_at hl 3 rfl) ?_
    refine lv_aload_n hx hb dL_law_1238 rfl (lv_at hl 5 rfl) ?_
    refine lv_iload hx hb dL_law_1239 (lv_at hl 1 rfl) ?_
    refine lv_iconst (v := nI 1) hx hb dL_law_1241 (by decide) ?_
    refine lv_iadd hx hb dL_law_1242 ?_
    refine lv_as (y := nI (i + 1)) (nI_add _ _) ?_
    refine n_sld hx hb hX hbl hbA hS (k := i + 1) (by omega) (by omega) dL_law_1243 ?_
    refine lv_aload_n hx hb dL_law_1244 rfl (lv_at hl 5 rfl) ?_
    refine lv_iload hx hb dL_law_1245 (lv_at hl 1 rfl) ?_
    refine lv_iconst (v := nI 2) hx hb dL_law_1247 (by decide) ?_
    refine lv_iadd hx hb dL_law_1248 ?_
    refine lv_as (y := nI (i + 2)) (nI_add _ _) ?_
    refine n_sld hx hb hX hbl hbA hS (k := i + 2) (by omega) (by omega) dL_law_1249 ?_
    refine lv_aload_n hx hb dL_law_1250 rfl (lv_at hl 5 rfl) ?_
    refine lv_iload hx hb dL_law_1251 (lv_at hl 1 rfl) ?_
    refine lv_iconst (v := nI 3) hx hb dL_law_1253 (by decide) ?_
    refine lv_iadd hx hb dL_law_1254 ?_
    refine lv_as (y := nI (i + 3)) (nI_add _ _) ?_
    refine n_sld hx hb hX hbl hbA hS (k := i + 3) (by omega) (by omega) dL_law_1255 ?_
    refine lv_aload_n hx hb dL_law_1256 rfl (lv_at hl 5 rfl) ?_
    refine lv_iload hx hb dL_law_1257 (lv_at hl 1 rfl) ?_
    refine lv_iconst (v := nI 4) hx hb dL_law_1259 (by decide) ?_
    refine lv_iadd hx hb dL_law_1260 ?_
    refine lv_as (y := nI (i + 4)) (nI_add _ _) ?_
    refine n_sld hx hb hX hbl hbA hS (k := i + 4) (by omega) (by omega) dL_law_1261 ?_
    refine k_callVW (wr := (wx cI q sh sp ld nm tx ds ct co kg ks ++ [wo o cJ (vp_updL f 0 ((nI (pl (toldC sh ct ds K a3 a2) Ld (arrC NK NT a3 a2) a4 a1 tk0)).toInt64))])) (As := [.int (xs (i + 1)), .int (xs (i + 2)), .int (xs (i + 3)), .int (xs (i + 4))]) (rest := []) ⟨hx, hb, hml, hown, hts⟩ (c_X1_placeBehind l D cI2 cZ q2 th sh sp ld nm2 nk tx2 mn ds ct2 co st at0 ha tk (xs (i + 1)) (xs (i + 2)) (xs (i + 3)) (xs (i + 4)) K Ld hR.hGk hR.2.1 NT NK hR.hN2 (k_D_tt (hD.sub [9, 10, 11, 12, 13, 14, 15, 16, 17, 18, 19] (by decide) rfl))) (cwV 4 hts gL_law_X1_placeBehind rfl rfl rfl (by decide +kernel) ⟨Nat.le_of_ble_eq_true rfl, Nat.le_of_ble_eq_true rfl⟩) k_B_bl (k_B_of (hP.sub [9, 10, 11, 12, 13, 14, 15, 16, 17, 18, 19] rfl) (hK.sub [1, 2] rfl)) (va_recv hK hP (ci := 1) (q0 := 9) rfl rfl) rfl hl.1 rfl (Nat.le_of_ble_eq_true rfl) dL_law_1262 ⟨hcc, hss⟩ hP hD hS [0, 1, 2, 3, 4, 5, 6, 7, 8, 20] [9, 10, 11, 12, 13, 14, 15, 16, 17, 18, 19] rfl rfl (fun _ => rfl) (fun v H locs hv hP hD hS _ _ => ?_)
    obtain ⟨v1, vo⟩ := v
    obtain ⟨hv1, hv2⟩ := hv
    rcases lw_or0 hv2 with ⟨hvo, hc2⟩ | ⟨v2, hvo, hc2, hv3⟩
    · exact absurd (hcd.trans hc) hc2
    · skip
      have hv1 : v1 = nI (cd2 (inB (xs (i + 1)) 8) (txB (xs (i + 2)) (xs (i + 3)) && inB (xs (i + 4)) 31)) := hv1
      have hvo : vo = _ := hvo
      subst hvo
      subst hv1
      obtain ⟨⟨b1, b2, b3, b4⟩, b5, b6, b7, b8⟩ := v2
      obtain ⟨hq1, hq2, hq3, hq4, hq5, hq6, hq7, hq8, hq9⟩ := hv3
      have hq1 : b1 < 8 := hq1
      have hq2 : (xs (i + 1)) = nI b1 := hq2
      have hq3 : 1 ≤ b3 := hq3
      have hq4 : b3 ≤ 5 := hq4
      have hq5 : b2 < 8 ^ b3 := hq5
      have hq6 : (xs (i + 2)) = nI b2 := hq6
      have hq7 : (xs (i + 3)) = nI b3 := hq7
      have hq8 : b4 < 31 := hq8
      have hq9 : (xs (i + 4)) = nI b4 := hq9
      have zhp4 := p8_le hp4
      have zhq4 := p8_le hq4
      have hab : a1 = b1 := nI_inj (by omega) (by omega) (hp2.symm.trans hq2)
      subst hab
      have hab : a2 = b2 := nI_inj (by omega) (by omega) (hp6.symm.trans hq6)
      subst hab
      have hab : a3 = b3 := nI_inj (by omega) (by omega) (hp7.symm.trans hq7)
      subst hab
      have hab : a4 = b4 := nI_inj (by omega) (by omega) (hp9.symm.trans hq9)
      subst hab
      have hP : va_P D vwCl (wx cI q sh sp ld nm tx ds ct co kg ks ++ (wm cI2 cZ q2 (nI (cd2 (inB (xs (i + 1)) 8) (txB (xs (i + 2)) (xs (i + 3)) && inB (xs (i + 4)) 31))) sh sp ld nm2 nk tx2 mn ds ct2 co b6 b7 b8 b5) ++ [wo o cJ (vp_updL f 0 ((nI (pl (toldC sh ct ds K a3 a2) Ld (arrC NK NT a3 a2) a4 a1 tk0)).toInt64))]) H := hP.sub [0, 1, 2, 3, 4, 5, 6, 7, 8, 10, 11, 12, 13, 14, 15, 16, 17, 18, 19, 20, 9] rfl
      have hD : va_D _ (wx cI q sh sp ld nm tx ds ct co kg ks ++ (wm cI2 cZ q2 (nI (cd2 (inB (xs (i + 1)) 8) (txB (xs (i + 2)) (xs (i + 3)) && inB (xs (i + 4)) 31))) sh sp ld nm2 nk tx2 mn ds ct2 co b6 b7 b8 b5) ++ [wo o cJ (vp_updL f 0 ((nI (pl (toldC sh ct ds K a3 a2) Ld (arrC NK NT a3 a2) a4 a1 tk0)).toInt64))]) := hD.sub [0, 1, 2, 3, 4, 5, 6, 7, 8, 10, 11, 12, 13, 14, 15, 16, 17, 18, 19, 20, 9] (by decide) rfl
      refine lv_istore (lv' := [(6, .int (nI (pl (toldR sh ct2 ds K a3 a2) Ld (arrC NK NT a3 a2) a4 a1 tk0))), (5, .int (nI (0))), (4, .int (nI i)), (3, .ref o), (2, .ref (q2 0)), (1, .ref (q 0)), (0, .ref b)]) hx hb dL_law_1265 hl (by decide) rfl (fun ls hl => ?_)
      refine lv_aload_n hx hb dL_law_1267 rfl (lv_at hl 4 rfl) ?_
      refine k_callVi (As := []) (rest := []) ⟨hx, hb, hml, hown, hts⟩ (c_X1_thrown l D cI2 cZ q2 (nI (cd2 (inB (xs (i + 1)) 8) (txB (xs (i + 2)) (xs (i + 3)) && inB (xs (i + 4)) 31))) sh sp ld nm2 nk tx2 mn ds ct2 co b6 b7 b8 b5) (cwV 0 hts gL_law_X1_thrown rfl rfl rfl (by decide +kernel) ⟨Nat.le_of_ble_eq_true rfl, Nat.le_of_ble_eq_true rfl⟩) k_B_bl (k_B_of (hP.sub [9, 10, 11, 12, 13, 14, 15, 16, 17, 18, 19] rfl) (hK.sub [1, 2] rfl)) (va_recv hK hP (ci := 1) (q0 := 9) rfl rfl) rfl hl.1 rfl (Nat.le_of_ble_eq_true rfl) dL_law_1268 ⟨Nat.le_trans (Nat.le_refl _) hcc, Nat.le_trans (Nat.le_refl _) hss⟩ ?_
      refine lv_as (y := nI (0)) (congrArg nI hc2) ?_
      refine lv_iload hx hb dL_law_1271 (lv_at hl 1 rfl) ?_
      refine lv_icmp_eq (tgt := 1278) hx hb dL_law_1273 (by decide) (fun _ => ?_) (fun h9 => absurd rfl h9)
      refine lv_iload hx hb dL_law_1278 (lv_at hl 1 rfl) ?_
      refine n_if_ne (tgt := 1295) hx hb dL_law_1280 (by decide) (by decide) (fun h9 => absurd h9 (by decide)) (fun _ => ?_)
      refine lv_aload_n hx hb dL_law_1283 rfl (lv_at hl 3 rfl) ?_
      refine lv_iconst (v := nI 0) hx hb dL_law_1284 (by decide) ?_
      refine n_lald hx hb hK hP 20 3 rfl rfl dL_law_1285 ?_
      refine lv_iload hx hb dL_law_1286 (lv_at hl 0 rfl) ?_
      have hans : (nI (pl (toldC sh ct ds K a3 a2) Ld (arrC NK NT a3 a2) a4 a1 tk0)) = nI (pl (toldR sh ct2 ds K a3 a2) Ld (arrC NK NT a3 a2) a4 a1 tk0) := congrArg nI (pl_cong hR.hLd (hR.told _ _) _ _ tk0 (by omega))
      refine lv_i2l (v := (nI (pl (toldR sh ct2 ds K a3 a2) Ld (arrC NK NT a3 a2) a4 a1 tk0)).toInt64) hx hb dL_law_1288 rfl ?_
      refine n_lcmpEq hx hb (congrArg Int32.toInt64 hans) dL_law_1289 ?_
      refine n_if_eq (tgt := 1295) hx hb dL_law_1290 (by decide) (by decide) (fun _ => ?_) (fun h9 => absurd h9 (by decide))
      refine lv_goto (tgt := 1298) hx hb dL_law_1295 (by decide) ?_
      refine hk H locs ls ?_ (lv_sub hl [2, 3, 4, 5, 6] rfl)
      exact lwI_mk (hR) hP hD hS
