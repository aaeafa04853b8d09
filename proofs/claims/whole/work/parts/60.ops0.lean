theorem lwI_mk {D : va_G} {cI : ClassId} {q : Nat → Nat} {cI2 cZ : ClassId} {q2 : Nat → Nat} {o : Nat} {cJ : ClassId} {s : State} {H : Heap} {locs : List Loc} {sh sp ld nm tx ds ct : Nat → Int32} {co : Int64} {kg : Int32} {ks : Nat → Int32} {th : Int32} {nm2 nk tx2 mn ct2 : Nat → Int32} {st at0 ha : Int32} {tk : Nat → Int32} {f : Nat → Int64} {T K T2 Ld NT NK : Nat → Nat} (hR : lwR sh ld nm tx ds ct kg ks nm2 nk tx2 mn ct2 T K T2 Ld NT NK) (hP : va_P D vwCl (wx cI q sh sp ld nm tx ds ct co kg ks ++ wm cI2 cZ q2 th sh sp ld nm2 nk tx2 mn ds ct2 co st at0 ha tk ++ [wo o cJ f]) H) (hD : va_D (fun a : Nat => s.heap.size ≤ a) (wx cI q sh sp ld nm tx ds ct co kg ks ++ wm cI2 cZ q2 th sh sp ld nm2 nk tx2 mn ds ct2 co st at0 ha tk ++ [wo o cJ f])) (hS : va_S (fun a : Nat => s.heap.size ≤ a) s.heap H locs) : lwI D cI q cI2 cZ q2 o cJ s H locs := ⟨sh, sp, ld, nm, tx, ds, ct, co, kg, ks, th, nm2, nk, tx2, mn, ct2, st, at0, ha, tk, f, T, K, T2, Ld, NT, NK, hR, hP, hD, hS⟩
set_option maxHeartbeats 4000000 in
set_option maxRecDepth 100000 in
theorem lw_difference {p : Program} {l : Launch} {e : Env} {s : State} {m : MethodId} {below : List Frame} {meth : Method} {c : Code} {b L : Nat} {xs : Nat → Int32} {Q : State → Prop} {D : va_G} {cI cI2 cZ cJ : ClassId} {q q2 : Nat → Nat} {o : Nat} (hC : lwC p l s m meth c b L xs D cI cI2 cZ cJ) {i : Nat} (hi : i + 7 ≤ L) {cells slots : Nat} (hcc : cells + 8 ≤ room_1.cells) (hss : slots + 48 ≤ room_1.slots) {H : Heap} {locs : List Loc} (hI : lwI D cI q cI2 cZ q2 o cJ s H locs) {ls : Array Slot} (hl : lv_has ls 7 (lwL b q q2 o i)) (hk : ∀ (H : Heap) (locs : List Loc) (ls : Array Slot), lwI D cI q cI2 cZ q2 o cJ s H locs → lv_has ls 7 (lwL b q q2 o i) → W p l e room_1 s m #[Value.ref b] below meth c H locs (cells + 8) (slots + 48) Q (F0 m 1298 ls [])) : W p l e room_1 s m #[Value.ref b] below meth c H locs cells slots Q (F0 m 254 ls []) := by
  obtain ⟨C0, hst, hex, hnc, hK, hL⟩ := hC
  obtain ⟨hx, hb, hr, hml, hown, hts0, hX, hbl, hlocks, hgv⟩ := id C0
  have hts : ∀ w ∈ wsL_law, w.before #[Value.ref b] s = true := fun w h => hts0 w (wsL_law_in w h)
  have hown : s.vm.findClass RL = some m.cls := hown
  have hbA : ¬ (fun a : Nat => s.heap.size ≤ a) b := Nat.not_le.mpr hbl
  obtain ⟨sh, sp, ld, nm, tx, ds, ct, co, kg, ks, th, nm2, nk, tx2, mn, ct2, st, at0, ha, tk, f, T, K, T2, Ld, NT, NK, hR, hP, hD, hS⟩ := hI
  have hl : lv_has ls 7 [(4, .int (nI i)), (3, .ref o), (2, .ref (q2 0)), (1, .ref (q 0)), (0, .ref b)] := hl
  refine lv_aload_n hx hb dL_law_254 rfl (lv_at hl 3 rfl) ?_
  refine lv_aload_n hx hb dL_law_255 rfl (lv_at hl 4 rfl) ?_
  refine lv_iload hx hb dL_law_256 (lv_at hl 0 rfl) ?_
  refine lv_iconst (v := nI 1) hx hb dL_law_258 (by decide) ?_
  refine lv_iadd hx hb dL_law_259 ?_
  refine lv_as (y := nI (i + 1)) (nI_add _ _) ?_
  refine n_sld hx hb hX hbl hbA hS (k := i + 1) (by omega) (by omega) dL_law_260 ?_
  refine lv_aload_n hx hb dL_law_261 rfl (lv_at hl 4 rfl) ?_
  refine lv_iload hx hb dL_law_262 (lv_at hl 0 rfl) ?_
  refine lv_iconst (v := nI 2) hx hb dL_law_264 (by decide) ?_
  refine lv_iadd hx hb dL_law_265 ?_
  refine lv_as (y := nI (i + 2)) (nI_add _ _) ?_
  refine n_sld hx hb hX hbl hbA hS (k := i + 2) (by omega) (by omega) dL_law_266 ?_
  refine lv_aload_n hx hb dL_law_267 rfl (lv_at hl 1 rfl) ?_
  refine k_callTW (wr := (wm cI2 cZ q2 th sh sp ld nm2 nk tx2 mn ds ct2 co st at0 ha tk)) (As := [.ref (q 0), .int (xs (i + 1)), .int (xs (i + 2)), .ref o]) (rest := []) ⟨hx, hb, hml, hown, hts⟩ (c_L_difference l hst D cI q sh sp ld nm tx ds ct co kg ks (xs (i + 1)) (xs (i + 2)) hR.1 o cJ f (k_D_tt (hD.sub [0, 1, 2, 3, 4, 5, 6, 7, 8, 20] (by decide) rfl))) (vx_cwSW 4 hts gL_law_L_difference rfl rfl rfl (by decide +kernel) ⟨Nat.le_of_ble_eq_true rfl, Nat.le_of_ble_eq_true rfl⟩) (k_en_bl k_B_bl) (fun U hU hW => ⟨k_B_of (hP.sub [0, 1, 2, 3, 4, 5, 6, 7, 8, 20] rfl) (hK.sub [0, 3] rfl) U hU hW, k_ex_mv hex hS (fun a h => Nat.not_le.mpr h) U hU hW, k_nc_of hnc U hW⟩) rfl hl.1 rfl (Nat.le_of_ble_eq_true rfl) dL_law_268 ⟨hcc, hss⟩ hP hD hS [9, 10, 11, 12, 13, 14, 15, 16, 17, 18, 19] [0, 1, 2, 3, 4, 5, 6, 7, 8, 20] rfl rfl (fun u => by cases u <;> rfl) (fun u H locs hu hP hD hS => ?_)
  have hcd : cd1 (inB (xs (i + 1)) 8 && inB (xs (i + 2)) 8) = cd1 (inB (xs (i + 1)) 8 && inB (xs (i + 2)) 8) := rfl
  rcases lw_or0 hu with ⟨rfl, hc⟩ | ⟨u1, rfl, hc, hpx⟩
  · skip
    have hP : va_P D vwCl (wx cI q sh sp ld nm tx ds ct co kg ks ++ wm cI2 cZ q2 th sh sp ld nm2 nk tx2 mn ds ct2 co st at0 ha tk ++ [wo o cJ f]) H := hP.sub [11, 12, 13, 14, 15, 16, 17, 18, 19, 0, 1, 2, 3, 4, 5, 6, 7, 8, 9, 10, 20] rfl
    have hD : va_D _ (wx cI q sh sp ld nm tx ds ct co kg ks ++ wm cI2 cZ q2 th sh sp ld nm2 nk tx2 mn ds ct2 co st at0 ha tk ++ [wo o cJ f]) := hD.sub [11, 12, 13, 14, 15, 16, 17, 18, 19, 0, 1, 2, 3, 4, 5, 6, 7, 8, 9, 10, 20] (by decide) rfl
    refine lv_istore (lv' := [(5, .int (nI (cd1 (inB (xs (i + 1)) 8 && inB (xs (i + 2)) 8)))), (4, .int (nI i)), (3, .ref o), (2, .ref (q2 0)), (1, .ref (q 0)), (0, .ref b)]) hx hb dL_law_271 hl (by decide) rfl (fun ls hl => ?_)
    refine lv_aload_n hx hb dL_law_273 rfl (lv_at hl 3 rfl) ?_
    refine lv_aload_n hx hb dL_law_274 rfl (lv_at hl 5 rfl) ?_
    refine lv_iload hx hb dL_law_275 (lv_at hl 1 rfl) ?_
    refine lv_iconst (v := nI 1) hx hb dL_law_277 (by decide) ?_
    refine lv_iadd hx hb dL_law_278 ?_
    refine lv_as (y := nI (i + 1)) (nI_add _ _) ?_
    refine n_sld hx hb hX hbl hbA hS (k := i + 1) (by omega) (by omega) dL_law_279 ?_
    refine lv_aload_n hx hb dL_law_280 rfl (lv_at hl 5 rfl) ?_
    refine lv_iload hx hb dL_law_281 (lv_at hl 1 rfl) ?_
    refine lv_iconst (v := nI 2) hx hb dL_law_283 (by decide) ?_
    refine lv_iadd hx hb dL_law_284 ?_
    refine lv_as (y := nI (i + 2)) (nI_add _ _) ?_
    refine n_sld hx hb hX hbl hbA hS (k := i + 2) (by omega) (by omega) dL_law_285 ?_
    refine k_callVW (wr := (wx cI q sh sp ld nm tx ds ct co kg ks ++ [wo o cJ f])) (As := [.int (xs (i + 1)), .int (xs (i + 2))]) (rest := []) ⟨hx, hb, hml, hown, hts⟩ (c_X1_difference l D cI2 cZ q2 th sh sp ld nm2 nk tx2 mn ds ct2 co st at0 ha tk (xs (i + 1)) (xs (i + 2)) (k_D_tt (hD.sub [9, 10, 11, 12, 13, 14, 15, 16, 17, 18, 19] (by decide) rfl))) (cwV 2 hts gL_law_X1_difference rfl rfl rfl (by decide +kernel) ⟨Nat.le_of_ble_eq_true rfl, Nat.le_of_ble_eq_true rfl⟩) k_B_bl (k_B_of (hP.sub [9, 10, 11, 12, 13, 14, 15, 16, 17, 18, 19] rfl) (hK.sub [1, 2] rfl)) (va_recv hK hP (ci := 1) (q0 := 9) rfl rfl) rfl hl.1 rfl (Nat.le_of_ble_eq_true rfl) dL_law_286 ⟨hcc, hss⟩ hP hD hS [0, 1, 2, 3, 4, 5, 6, 7, 8, 20] [9, 10, 11, 12, 13, 14, 15, 16, 17, 18, 19] rfl rfl (fun _ => rfl) (fun v H locs hv hP hD hS _ _ => ?_)
    obtain ⟨v1, vo⟩ := v
    obtain ⟨hv1, hv2⟩ := hv
    rcases lw_or0 hv2 with ⟨hvo, hc2⟩ | ⟨v2, hvo, hc2, hv3⟩
    · skip
      have hv1 : v1 = nI (cd1 (inB (xs (i + 1)) 8 && inB (xs (i + 2)) 8)) := hv1
      have hvo : vo = _ := hvo
      subst hvo
      subst hv1
      have hP : va_P D vwCl (wx cI q sh sp ld nm tx ds ct co kg ks ++ (wm cI2 cZ q2 (nI (cd1 (inB (xs (i + 1)) 8 && inB (xs (i + 2)) 8))) sh sp ld nm2 nk tx2 mn ds ct2 co st at0 ha tk) ++ [wo o cJ f]) H := hP.sub [0, 1, 2, 3, 4, 5, 6, 7, 8, 10, 11, 12, 13, 14, 15, 16, 17, 18, 19, 20, 9] rfl
      have hD : va_D _ (wx cI q sh sp ld nm tx ds ct co kg ks ++ (wm cI2 cZ q2 (nI (cd1 (inB (xs (i + 1)) 8 && inB (xs (i + 2)) 8))) sh sp ld nm2 nk tx2 mn ds ct2 co st at0 ha tk) ++ [wo o cJ f]) := hD.sub [0, 1, 2, 3, 4, 5, 6, 7, 8, 10, 11, 12, 13, 14, 15, 16, 17, 18, 19, 20, 9] (by decide) rfl
      refine lv_istore (lv' := [(6, .int (nI 0)), (5, .int (nI (cd1 (inB (xs (i + 1)) 8 && inB (xs (i + 2)) 8)))), (4, .int (nI i)), (3, .ref o), (2, .ref (q2 0)), (1, .ref (q 0)), (0, .ref b)]) hx hb dL_law_289 hl (by decide) rfl (fun ls hl => ?_)
      refine lv_aload_n hx hb dL_law_291 rfl (lv_at hl 4 rfl) ?_
      refine k_callVi (As := []) (rest := []) ⟨hx, hb, hml, hown, hts⟩ (c_X1_thrown l D cI2 cZ q2 (nI (cd1 (inB (xs (i + 1)) 8 && inB (xs (i + 2)) 8))) sh sp ld nm2 nk tx2 mn ds ct2 co st at0 ha tk) (cwV 0 hts gL_law_X1_thrown rfl rfl rfl (by decide +kernel) ⟨Nat.le_of_ble_eq_true rfl, Nat.le_of_ble_eq_true rfl⟩) k_B_bl (k_B_of (hP.sub [9, 10, 11, 12, 13, 14, 15, 16, 17, 18, 19] rfl) (hK.sub [1, 2] rfl)) (va_recv hK hP (ci := 1) (q0 := 9) rfl rfl) rfl hl.1 rfl (Nat.le_of_ble_eq_true rfl) dL_law_292 ⟨Nat.le_trans (Nat.le_refl _) hcc, Nat.le_trans (Nat.le_refl _) hss⟩ ?_
      refine lv_as (y := nI (cd1 (inB (xs (i + 1)) 8 && inB (xs (i + 2)) 8))) (congrArg nI hcd) ?_
      refine lv_iload hx hb dL_law_295 (lv_at hl 1 rfl) ?_
      refine lv_icmp_eq (tgt := 302) hx hb dL_law_297 (by decide) (fun _ => ?_) (fun h9 => absurd rfl h9)
      refine lv_iload hx hb dL_law_302 (lv_at hl 1 rfl) ?_
      refine n_if_ne (tgt := 319) hx hb dL_law_304 (by decide) (cd1_le _) (fun _ => ?_) (fun h9 => absurd h9 hc)
      refine lv_goto (tgt := 1298) hx hb dL_law_319 (by decide) ?_
      refine hk H locs ls ?_ (lv_sub hl [2, 3, 4, 5, 6] rfl)
      exact lwI_mk (hR) hP hD hS
    · exact absurd (hcd.symm.trans hc2) hc
  · skip
    obtain ⟨a1, a2⟩ := u1
    obtain ⟨hp1, hp2, hp3, hp4⟩ := hpx
    have hp1 : a1 < 8 := hp1
    have hp2 : (xs (i + 1)) = nI a1 := hp2
    have hp3 : a2 < 8 := hp3
    have hp4 : (xs (i + 2)) = nI a2 := hp4
    have hP : va_P D vwCl (wx cI q sh sp ld nm tx ds ct co kg ks ++ wm cI2 cZ q2 th sh sp ld nm2 nk tx2 mn ds ct2 co st at0 ha tk ++ [wo o cJ (vp_updL f 0 ((df (sh a1) (sh a2)).toInt64))]) H := hP.sub [11, 12, 13, 14, 15, 16, 17, 18, 19, 0, 1, 2, 3, 4, 5, 6, 7, 8, 9, 10, 20] rfl
    have hD : va_D _ (wx cI q sh sp ld nm tx ds ct co kg ks ++ wm cI2 cZ q2 th sh sp ld nm2 nk tx2 mn ds ct2 co st at0 ha tk ++ [wo o cJ (vp_updL f 0 ((df (sh a1) (sh a2)).toInt64))]) := hD.sub [11, 12, 13, 14, 15, 16, 17, 18, 19, 0, 1, 2, 3, 4, 5, 6, 7, 8, 9, 10, 20] (by decide) rfl
    refine lv_istore (lv' := [(5, .int (nI (0))), (4, .int (nI i)), (3, .ref o), (2, .ref (q2 0)), (1, .ref (q 0)), (0, .ref b)]) hx hb dL_law_271 hl (by decide) rfl (fun ls hl => ?_)
    refine lv_aload_n hx hb dL_law_273 rfl (lv_at hl 3 rfl) ?_
    refine lv_aload_n hx hb dL_law_274 rfl (lv_at hl 5 rfl) ?_
    refine lv_iload hx hb dL_law_275 (lv_at hl 1 rfl) ?_
    refine lv_iconst (v := nI 1) hx hb dL_law_277 (by decide) ?_
    refine lv_iadd hx hb dL_law_278 ?_
    refine lv_as (y := nI (i + 1)) (nI_add _ _) ?_
    refine n_sld hx hb hX hbl hbA hS (k := i + 1) (by omega) (by omega) dL_law_279 ?_
    refine lv_aload_n hx hb dL_law_280 rfl (lv_at hl 5 rfl) ?_
    refine lv_iload hx hb dL_law_281 (lv_at hl 1 rfl) ?_
    refine lv_iconst (v := nI 2) hx hb dL_law_283 (by decide) ?_
    refine lv_iadd hx hb dL_law_284 ?_
    refine lv_as (y := nI (i + 2)) (nI_add _ _) ?_
    refine n_sld hx hb hX hbl hbA hS (k := i + 2) (by omega) (by omega) dL_law_285 ?_
    refine k_callVW (wr := (wx cI q sh sp ld nm tx ds ct co kg ks ++ [wo o cJ (vp_updL f 0 ((df (sh a1) (sh a2)).toInt64))])) (As := [.int (xs (i + 1)), .int (xs (i + 2))]) (rest := []) ⟨hx, hb, hml, hown, hts⟩ (c_X1_difference l D cI2 cZ q2 th sh sp ld nm2 nk tx2 mn ds ct2 co st at0 ha tk (xs (i + 1)) (xs (i + 2)) (k_D_tt (hD.sub [9, 10, 11, 12, 13, 14, 15, 16, 17, 18, 19] (by decide) rfl))) (cwV 2 hts gL_law_X1_difference rfl rfl rfl (by decide +kernel) ⟨Nat.le_of_ble_eq_true rfl, Nat.le_of_ble_eq_true rfl⟩) k_B_bl (k_B_of (hP.sub [9, 10, 11, 12, 13, 14, 15, 16, 17, 18, 19] rfl) (hK.sub [1, 2] rfl)) (va_recv hK hP (ci := 1) (q0 := 9) rfl rfl) rfl hl.1 rfl (Nat.le_of_ble_eq_true rfl) dL_law_286 ⟨hcc, hss⟩ hP hD hS [0, 1, 2, 3, 4, 5, 6, 7, 8, 20] [9, 10, 11, 12, 13, 14, 15, 16, 17, 18, 19] rfl rfl (fun _ => rfl) (fun v H locs hv hP hD hS _ _ => ?_)
    obtain ⟨v1, vo⟩ := v
    obtain ⟨hv1, hv2⟩ := hv
    rcases lw_or0 hv2 with ⟨hvo, hc2⟩ | ⟨v2, hvo, hc2, hv3⟩
    · exact absurd (hcd.trans hc) hc2
    · skip
      have hv1 : v1 = nI (cd1 (inB (xs (i + 1)) 8 && inB (xs (i + 2)) 8)) := hv1
      have hvo : vo = _ := hvo
      subst hvo
      subst hv1
      obtain ⟨b1, b2⟩ := v2
      obtain ⟨hq1, hq2, hq3, hq4⟩ := hv3
      have hq1 : b1 < 8 := hq1
      have hq2 : (xs (i + 1)) = nI b1 := hq2
      have hq3 : b2 < 8 := hq3
      have hq4 : (xs (i + 2)) = nI b2 := hq4
      have hab : a1 = b1 := nI_inj (by omega) (by omega) (hp2.symm.trans hq2)
      subst hab
      have hab : a2 = b2 := nI_inj (by omega) (by omega) (hp4.symm.trans hq4)
      subst hab
      have hP : va_P D vwCl (wx cI q sh sp ld nm tx ds ct co kg ks ++ (wm cI2 cZ q2 (nI (cd1 (inB (xs (i + 1)) 8 && inB (xs (i + 2)) 8))) sh sp ld nm2 nk tx2 mn ds ct2 co st at0 ha tk) ++ [wo o cJ (vp_updL f 0 ((df (sh a1) (sh a2)).toInt64))]) H := hP.sub [0, 1, 2, 3, 4, 5, 6, 7, 8, 10, 11, 12, 13, 14, 15, 16, 17, 18, 19, 20, 9] rfl
      have hD : va_D _ (wx cI q sh sp ld nm tx ds ct co kg ks ++ (wm cI2 cZ q2 (nI (cd1 (inB (xs (i + 1)) 8 && inB (xs (i + 2)) 8))) sh sp ld nm2 nk tx2 mn ds ct2 co st at0 ha tk) ++ [wo o cJ (vp_updL f 0 ((df (sh a1) (sh a2)).toInt64))]) := hD.sub [0, 1, 2, 3, 4, 5, 6, 7, 8, 10, 11, 12, 13, 14, 15, 16, 17, 18, 19, 20, 9] (by decide) rfl
      refine lv_istore (lv' := [(6, .int (df (sh a1) (sh a2))), (5, .int (nI (0))), (4, .int (nI i)), (3, .ref o), (2, .ref (q2 0)), (1, .ref (q 0)), (0, .ref b)]) hx hb dL_law_289 hl (by decide) rfl (fun ls hl => ?_)
      refine lv_aload_n hx hb dL_law_291 rfl (lv_at hl 4 rfl) ?_
      refine k_callVi (As := []) (rest := []) ⟨hx, hb, hml, hown, hts⟩ (c_X1_thrown l D cI2 cZ q2 (nI (cd1 (inB (xs (i + 1)) 8 && inB (xs (i + 2)) 8))) sh sp ld nm2 nk tx2 mn ds ct2 co st at0 ha tk) (cwV 0 hts gL_law_X1_thrown rfl rfl rfl (by decide +kernel) ⟨Nat.le_of_ble_eq_true rfl, Nat.le_of_ble_eq_true rfl⟩) k_B_bl (k_B_of (hP.sub [9, 10, 11, 12, 13, 14, 15, 16, 17, 18, 19] rfl) (hK.sub [1, 2] rfl)) (va_recv hK hP (ci := 1) (q0 := 9) rfl rfl) rfl hl.1 rfl (Nat.le_of_ble_eq_true rfl) dL_law_292 ⟨Nat.le_trans (Nat.le_refl _) hcc, Nat.le_trans (Nat.le_refl _) hss⟩ ?_
      refine lv_as (y := nI (0)) (congrArg nI hc2) ?_
      refine lv_iload hx hb dL_law_295 (lv_at hl 1 rfl) ?_
      refine lv_icmp_eq (tgt := 302) hx hb dL_law_297 (by decide) (fun _ => ?_) (fun h9 => absurd rfl h9)
      refine lv_iload hx hb dL_law_302 (lv_at hl 1 rfl) ?_
      refine n_if_ne (tgt := 319) hx hb dL_law_304 (by decide) (by decide) (fun h9 => absurd h9 (by decide)) (fun _ => ?_)
      refine lv_aload_n hx hb dL_law_307 rfl (lv_at hl 3 rfl) ?_
      refine lv_iconst (v := nI 0) hx hb dL_law_308 (by decide) ?_
      refine n_lald hx hb hK hP 20 3 rfl rfl dL_law_309 ?_
      refine lv_iload hx hb dL_law_310 (lv_at hl 0 rfl) ?_
      have hans : (df (sh a1) (sh a2)) = df (sh a1) (sh a2) := rfl
      refine lv_i2l (v := (df (sh a1) (sh a2)).toInt64) hx hb dL_law_312 rfl ?_
      refine n_lcmpEq hx hb (congrArg Int32.toInt64 hans) dL_law_313 ?_
      refine n_if_eq (tgt := 319) hx hb dL_law_314 (by decide) (by decide) (fun _ => ?_) (fun h9 => absurd h9 (by decide))
      refine lv_goto (tgt := 1298) hx hb dL_law_319 (by decide) ?_
      refine hk H locs ls ?_ (lv_sub hl [2, 3, 4, 5, 6] rfl)
      exact lwI_mk (hR) hP hD hS
