set_option maxHeartbeats 4000000 in
set_option maxRecDepth 100000 in
theorem lo_name {p : Program} {l : Launch} {e : Env} {s : State} {m : MethodId} {below : List Frame} {meth : Method} {c : Code} {b L : Nat} {xs : Nat → Int32} {Q : State → Prop} {D : va_G} {cI cI2 cZ cJ : ClassId} {q q2 : Nat → Nat} {o : Nat} (hC : lwC p l s m meth c b L xs D cI cI2 cZ cJ) {i : Nat} (hi : i + 7 ≤ L) {cells slots : Nat} (hcc : cells + 8 ≤ room_1.cells) (hss : slots + 48 ≤ room_1.slots) {H : Heap} {locs : List Loc} (hI : lwI D cI q cI2 cZ q2 o cJ s H locs) {ls : Array Slot} (hl : lv_has ls 7 (lwL b q q2 o i)) (hk : ∀ (H : Heap) (locs : List Loc) (ls : Array Slot), lwI D cI q cI2 cZ q2 o cJ s H locs → lv_has ls 7 (lwL b q q2 o i) → W p l e room_1 s m #[Value.ref b] below meth c H locs (cells + 8) (slots + 48) Q (F0 m 1298 ls [])) : W p l e room_1 s m #[Value.ref b] below meth c H locs cells slots Q (F0 m 538 ls []) := by
  obtain ⟨C0, hst, hex, hnc, hK, hL⟩ := hC
  obtain ⟨hx, hb, hr, hml, hown, hts0, hX, hbl, hlocks, hgv⟩ := id C0
  have hts : ∀ w ∈ wsL_law, w.before #[Value.ref b] s = true := fun w h => hts0 w (wsL_law_in w h)
  have hown : s.vm.findClass RL = some m.cls := hown
  have hbA : ¬ (fun a : Nat => s.heap.size ≤ a) b := Nat.not_le.mpr hbl
  obtain ⟨sh, sp, ld, nm, tx, ds, ct, co, kg, ks, th, nm2, nk, tx2, mn, ct2, st, at0, ha, tk, f, T, K, T2, Ld, NT, NK, hR, hP, hD, hS⟩ := hI
  have hl : lv_has ls 7 [(4, .int (nI i)), (3, .ref o), (2, .ref (q2 0)), (1, .ref (q 0)), (0, .ref b)] := hl
  refine lv_aload_n hx hb dL_law_538 rfl (lv_at hl 3 rfl) ?_
  refine lv_aload_n hx hb dL_law_539 rfl (lv_at hl 4 rfl) ?_
  refine lv_iload hx hb dL_law_540 (lv_at hl 0 rfl) ?_
  refine lv_iconst (v := nI 1) hx hb dL_law_542 (by decide) ?_
  refine lv_iadd hx hb dL_law_543 ?_
  refine lv_as (y := nI (i + 1)) (nI_add _ _) ?_
  refine n_sld hx hb hX hbl hbA hS (k := i + 1) (by omega) (by omega) dL_law_544 ?_
  refine lv_aload_n hx hb dL_law_545 rfl (lv_at hl 4 rfl) ?_
  refine lv_iload hx hb dL_law_546 (lv_at hl 0 rfl) ?_
  refine lv_iconst (v := nI 2) hx hb dL_law_548 (by decide) ?_
  refine lv_iadd hx hb dL_law_549 ?_
  refine lv_as (y := nI (i + 2)) (nI_add _ _) ?_
  refine n_sld hx hb hX hbl hbA hS (k := i + 2) (by omega) (by omega) dL_law_550 ?_
  refine lv_aload_n hx hb dL_law_551 rfl (lv_at hl 4 rfl) ?_
  refine lv_iload hx hb dL_law_552 (lv_at hl 0 rfl) ?_
  refine lv_iconst (v := nI 3) hx hb dL_law_554 (by decide) ?_
  refine lv_iadd hx hb dL_law_555 ?_
  refine lv_as (y := nI (i + 3)) (nI_add _ _) ?_
  refine n_sld hx hb hX hbl hbA hS (k := i + 3) (by omega) (by omega) dL_law_556 ?_
  refine k_callTW (wr := (wm cI2 cZ q2 th sh sp ld nm2 nk tx2 mn ds ct2 co st at0 ha tk ++ [wo o cJ f])) (As := [.ref (q 0), .int (xs (i + 1)), .int (xs (i + 2)), .int (xs (i + 3))]) (rest := []) ⟨hx, hb, hml, hown, hts⟩ (c_L_name l hst D cI q sh sp ld nm tx ds ct co kg ks (xs (i + 1)) (xs (i + 2)) (xs (i + 3)) (k_D_tt (hD.sub [0, 1, 2, 3, 4, 5, 6, 7, 8] (by decide) rfl))) (vx_cwSW 4 hts gL_law_L_name rfl rfl rfl (by decide +kernel) ⟨Nat.le_of_ble_eq_true rfl, Nat.le_of_ble_eq_true rfl⟩) (k_en_bl k_B_bl) (fun U hU hW => ⟨k_B_of (hP.sub [0, 1, 2, 3, 4, 5, 6, 7, 8] rfl) (hK.sub [0] rfl) U hU hW, k_ex_mv hex hS (fun a h => Nat.not_le.mpr h) U hU hW, k_nc_of hnc U hW⟩) rfl hl.1 rfl (Nat.le_of_ble_eq_true rfl) dL_law_557 ⟨hcc, hss⟩ hP hD hS [9, 10, 11, 12, 13, 14, 15, 16, 17, 18, 19, 20] [0, 1, 2, 3, 4, 5, 6, 7, 8] rfl rfl (fun u => by cases u <;> rfl) (fun u H locs hu hP hD hS => ?_)
  have hcd : cd2 (inB (xs (i + 1)) 8) (txB (xs (i + 2)) (xs (i + 3))) = cd2 (inB (xs (i + 1)) 8) (txB (xs (i + 2)) (xs (i + 3))) := rfl
  rcases lw_or0 hu with ⟨rfl, hc⟩ | ⟨u1, rfl, hc, hpx⟩
  · skip
    have hP : va_P D vwCl (wx cI q sh sp ld nm tx ds ct co kg ks ++ wm cI2 cZ q2 th sh sp ld nm2 nk tx2 mn ds ct2 co st at0 ha tk ++ [wo o cJ f]) H := hP.sub [12, 13, 14, 15, 16, 17, 18, 19, 20, 0, 1, 2, 3, 4, 5, 6, 7, 8, 9, 10, 11] rfl
    have hD : va_D _ (wx cI q sh sp ld nm tx ds ct co kg ks ++ wm cI2 cZ q2 th sh sp ld nm2 nk tx2 mn ds ct2 co st at0 ha tk ++ [wo o cJ f]) := hD.sub [12, 13, 14, 15, 16, 17, 18, 19, 20, 0, 1, 2, 3, 4, 5, 6, 7, 8, 9, 10, 11] (by decide) rfl
    refine lv_istore (lv' := [(5, .int (nI (cd2 (inB (xs (i + 1)) 8) (txB (xs (i + 2)) (xs (i + 3)))))), (4, .int (nI i)), (3, .ref o), (2, .ref (q2 0)), (1, .ref (q 0)), (0, .ref b)]) hx hb dL_law_560 hl (by decide) rfl (fun ls hl => ?_)
    refine lv_aload_n hx hb dL_law_562 rfl (lv_at hl 3 rfl) ?_
    refine lv_aload_n hx hb dL_law_563 rfl (lv_at hl 5 rfl) ?_
    refine lv_iload hx hb dL_law_564 (lv_at hl 1 rfl) ?_
    refine lv_iconst (v := nI 1) hx hb dL_law_566 (by decide) ?_
    refine lv_iadd hx hb dL_law_567 ?_
    refine lv_as (y := nI (i + 1)) (nI_add _ _) ?_
    refine n_sld hx hb hX hbl hbA hS (k := i + 1) (by omega) (by omega) dL_law_568 ?_
    refine lv_aload_n hx hb dL_law_569 rfl (lv_at hl 5 rfl) ?_
    refine lv_iload hx hb dL_law_570 (lv_at hl 1 rfl) ?_
    refine lv_iconst (v := nI 2) hx hb dL_law_572 (by decide) ?_
    refine lv_iadd hx hb dL_law_573 ?_
    refine lv_as (y := nI (i + 2)) (nI_add _ _) ?_
    refine n_sld hx hb hX hbl hbA hS (k := i + 2) (by omega) (by omega) dL_law_574 ?_
    refine lv_aload_n hx hb dL_law_575 rfl (lv_at hl 5 rfl) ?_
    refine lv_iload hx hb dL_law_576 (lv_at hl 1 rfl) ?_
    refine lv_iconst (v := nI 3) hx hb dL_law_578 (by decide) ?_
    refine lv_iadd hx hb dL_law_579 ?_
    refine lv_as (y := nI (i + 3)) (nI_add _ _) ?_
    refine n_sld hx hb hX hbl hbA hS (k := i + 3) (by omega) (by omega) dL_law_580 ?_
    refine k_callVW (wr := (wx cI q sh sp ld nm tx ds ct co kg ks ++ [wo o cJ f])) (As := [.int (xs (i + 1)), .int (xs (i + 2)), .int (xs (i + 3))]) (rest := []) ⟨hx, hb, hml, hown, hts⟩ (c_X1_name l D cI2 cZ q2 th sh sp ld nm2 nk tx2 mn ds ct2 co st at0 ha tk (xs (i + 1)) (xs (i + 2)) (xs (i + 3)) (k_D_tt (hD.sub [9, 10, 11, 12, 13, 14, 15, 16, 17, 18, 19] (by decide) rfl))) (cwV 3 hts gL_law_X1_name rfl rfl rfl (by decide +kernel) ⟨Nat.le_of_ble_eq_true rfl, Nat.le_of_ble_eq_true rfl⟩) k_B_bl (k_B_of (hP.sub [9, 10, 11, 12, 13, 14, 15, 16, 17, 18, 19] rfl) (hK.sub [1, 2] rfl)) (va_recv hK hP (ci := 1) (q0 := 9) rfl rfl) rfl hl.1 rfl (Nat.le_of_ble_eq_true rfl) dL_law_581 ⟨hcc, hss⟩ hP hD hS [0, 1, 2, 3, 4, 5, 6, 7, 8, 20] [9, 10, 11, 12, 13, 14, 15, 16, 17, 18, 19] rfl rfl (fun _ => rfl) (fun v H locs hv hP hD hS _ _ => ?_)
    obtain ⟨v1, vo⟩ := v
    obtain ⟨hv1, hv2⟩ := hv
    rcases lw_or0 hv2 with ⟨hvo, hc2⟩ | ⟨v2, hvo, hc2, hv3⟩
    · skip
      have hv1 : v1 = nI (cd2 (inB (xs (i + 1)) 8) (txB (xs (i + 2)) (xs (i + 3)))) := hv1
      have hvo : vo = _ := hvo
      subst hvo
      subst hv1
      have hP : va_P D vwCl (wx cI q sh sp ld nm tx ds ct co kg ks ++ (wm cI2 cZ q2 (nI (cd2 (inB (xs (i + 1)) 8) (txB (xs (i + 2)) (xs (i + 3))))) sh sp ld nm2 nk tx2 mn ds ct2 co st at0 ha tk) ++ [wo o cJ f]) H := hP.sub [0, 1, 2, 3, 4, 5, 6, 7, 8, 10, 11, 12, 13, 14, 15, 16, 17, 18, 19, 20, 9] rfl
      have hD : va_D _ (wx cI q sh sp ld nm tx ds ct co kg ks ++ (wm cI2 cZ q2 (nI (cd2 (inB (xs (i + 1)) 8) (txB (xs (i + 2)) (xs (i + 3))))) sh sp ld nm2 nk tx2 mn ds ct2 co st at0 ha tk) ++ [wo o cJ f]) := hD.sub [0, 1, 2, 3, 4, 5, 6, 7, 8, 10, 11, 12, 13, 14, 15, 16, 17, 18, 19, 20, 9] (by decide) rfl
      refine lv_aload_n hx hb dL_law_584 rfl (lv_at hl 3 rfl) ?_
      refine k_callVi (As := []) (rest := []) ⟨hx, hb, hml, hown, hts⟩ (c_X1_thrown l D cI2 cZ q2 (nI (cd2 (inB (xs (i + 1)) 8) (txB (xs (i + 2)) (xs (i + 3))))) sh sp ld nm2 nk tx2 mn ds ct2 co st at0 ha tk) (cwV 0 hts gL_law_X1_thrown rfl rfl rfl (by decide +kernel) ⟨Nat.le_of_ble_eq_true rfl, Nat.le_of_ble_eq_true rfl⟩) k_B_bl (k_B_of (hP.sub [9, 10, 11, 12, 13, 14, 15, 16, 17, 18, 19] rfl) (hK.sub [1, 2] rfl)) (va_recv hK hP (ci := 1) (q0 := 9) rfl rfl) rfl hl.1 rfl (Nat.le_of_ble_eq_true rfl) dL_law_585 ⟨Nat.le_trans (Nat.le_refl _) hcc, Nat.le_trans (Nat.le_refl _) hss⟩ ?_
      refine lv_as (y := nI (cd2 (inB (xs (i + 1)) 8) (txB (xs (i + 2)) (xs (i + 3))))) (congrArg nI hcd) ?_
      refine lv_iload hx hb dL_law_588 (lv_at hl 0 rfl) ?_
      refine lv_icmp_eq (tgt := 595) hx hb dL_law_590 (by decide) (fun _ => ?_) (fun h9 => absurd rfl h9)
      refine lv_goto (tgt := 1298) hx hb dL_law_595 (by decide) ?_
      refine hk H locs ls ?_ (lv_sub hl [1, 2, 3, 4, 5] rfl)
      exact lwI_mk (hR) hP hD hS
    · exact absurd (hcd.symm.trans hc2) hc
  · skip
    obtain ⟨a1, a2, a3⟩ := u1
    obtain ⟨hp1, hp2, hp3, hp4, hp5, hp6, hp7⟩ := hpx
    have hp1 : a1 < 8 := hp1
    have hp2 : (xs (i + 1)) = nI a1 := hp2
    have hp3 : 1 ≤ a3 := hp3
    have hp4 : a3 ≤ 5 := hp4
    have hp5 : a2 < 8 ^ a3 := hp5
    have hp6 : (xs (i + 2)) = nI a2 := hp6
    have hp7 : (xs (i + 3)) = nI a3 := hp7
    have hP : va_P D vwCl (wx cI q sh sp ld (upd nm a1 (nI (32768 * a3 + a2))) tx ds ct co (nI 0) ks ++ wm cI2 cZ q2 th sh sp ld nm2 nk tx2 mn ds ct2 co st at0 ha tk ++ [wo o cJ f]) H := hP.sub [12, 13, 14, 15, 16, 17, 18, 19, 20, 0, 1, 2, 3, 4, 5, 6, 7, 8, 9, 10, 11] rfl
    have hD : va_D _ (wx cI q sh sp ld (upd nm a1 (nI (32768 * a3 + a2))) tx ds ct co (nI 0) ks ++ wm cI2 cZ q2 th sh sp ld nm2 nk tx2 mn ds ct2 co st at0 ha tk ++ [wo o cJ f]) := hD.sub [12, 13, 14, 15, 16, 17, 18, 19, 20, 0, 1, 2, 3, 4, 5, 6, 7, 8, 9, 10, 11] (by decide) rfl
    refine lv_istore (lv' := [(5, .int (nI (0))), (4, .int (nI i)), (3, .ref o), (2, .ref (q2 0)), (1, .ref (q 0)), (0, .ref b)]) hx hb dL_law_560 hl (by decide) rfl (fun ls hl => ?_)
    refine lv_aload_n hx hb dL_law_562 rfl (lv_at hl 3 rfl) ?_
    refine lv_aload_n hx hb dL_law_563 rfl (lv_at hl 5 rfl) ?_
    refine lv_iload hx hb dL_law_564 (lv_at hl 1 rfl) ?_
    refine lv_iconst (v := nI 1) hx hb dL_law_566 (by decide) ?_
    refine lv_iadd hx hb dL_law_567 ?_
    refine lv_as (y := nI (i + 1)) (nI_add _ _) ?_
    refine n_sld hx hb hX hbl hbA hS (k := i + 1) (by omega) (by omega) dL_law_568 ?_
    refine lv_aload_n hx hb dL_law_569 rfl (lv_at hl 5 rfl) ?_
    refine lv_iload hx hb dL_law_570 (lv_at hl 1 rfl) ?_
    refine lv_iconst (v := nI 2) hx hb dL_law_572 (by decide) ?_
    refine lv_iadd hx hb dL_law_573 ?_
    refine lv_as (y := nI (i + 2)) (nI_add _ _) ?_
    refine n_sld hx hb hX hbl hbA hS (k := i + 2) (by omega) (by omega) dL_law_574 ?_
    refine lv_aload_n hx hb dL_law_575 rfl (lv_at hl 5 rfl) ?_
    refine lv_iload hx hb dL_law_576 (lv_at hl 1 rfl) ?_
    refine lv_iconst (v := nI 3) hx hb dL_law_578 (by decide) ?_
    refine lv_iadd hx hb dL_law_579 ?_
    refine lv_as (y := nI (i + 3)) (nI_add _ _) ?_
    refine n_sld hx hb hX hbl hbA hS (k := i + 3) (by omega) (by omega) dL_law_580 ?_
    refine k_callVW (wr := (wx cI q sh sp ld (upd nm a1 (nI (32768 * a3 + a2))) tx ds ct co (nI 0) ks ++ [wo o cJ f])) (As := [.int (xs (i + 1)), .int (xs (i + 2)), .int (xs (i + 3))]) (rest := []) ⟨hx, hb, hml, hown, hts⟩ (c_X1_name l D cI2 cZ q2 th sh sp ld nm2 nk tx2 mn ds ct2 co st at0 ha tk (xs (i + 1)) (xs (i + 2)) (xs (i + 3)) (k_D_tt (hD.sub [9, 10, 11, 12, 13, 14, 15, 16, 17, 18, 19] (by decide) rfl))) (cwV 3 hts gL_law_X1_name rfl rfl rfl (by decide +kernel) ⟨Nat.le_of_ble_eq_true rfl, Nat.le_of_ble_eq_true rfl⟩) k_B_bl (k_B_of (hP.sub [9, 10, 11, 12, 13, 14, 15, 16, 17, 18, 19] rfl) (hK.sub [1, 2] rfl)) (va_recv hK hP (ci := 1) (q0 := 9) rfl rfl) rfl hl.1 rfl (Nat.le_of_ble_eq_true rfl) dL_law_581 ⟨hcc, hss⟩ hP hD hS [0, 1, 2, 3, 4, 5, 6, 7, 8, 20] [9, 10, 11, 12, 13, 14, 15, 16, 17, 18, 19] rfl rfl (fun _ => rfl) (fun v H locs hv hP hD hS _ _ => ?_)
    obtain ⟨v1, vo⟩ := v
    obtain ⟨hv1, hv2⟩ := hv
    rcases lw_or0 hv2 with ⟨hvo, hc2⟩ | ⟨v2, hvo, hc2, hv3⟩
    · exact absurd (hcd.trans hc) hc2
    · skip
      have hv1 : v1 = nI (cd2 (inB (xs (i + 1)) 8) (txB (xs (i + 2)) (xs (i + 3)))) := hv1
      have hvo : vo = _ := hvo
      subst hvo
      subst hv1
      obtain ⟨b1, b2, b3⟩ := v2
      obtain ⟨hq1, hq2, hq3, hq4, hq5, hq6, hq7⟩ := hv3
      have hq1 : b1 < 8 := hq1
      have hq2 : (xs (i + 1)) = nI b1 := hq2
      have hq3 : 1 ≤ b3 := hq3
      have hq4 : b3 ≤ 5 := hq4
      have hq5 : b2 < 8 ^ b3 := hq5
      have hq6 : (xs (i + 2)) = nI b2 := hq6
      have hq7 : (xs (i + 3)) = nI b3 := hq7
      have zhp4 := p8_le hp4
      have zhq4 := p8_le hq4
      have hab : a1 = b1 := nI_inj (by omega) (by omega) (hp2.symm.trans hq2)
      subst hab
      have hab : a2 = b2 := nI_inj (by omega) (by omega) (hp6.symm.trans hq6)
      subst hab
      have hab : a3 = b3 := nI_inj (by omega) (by omega) (hp7.symm.trans hq7)
      subst hab
      have hP : va_P D vwCl (wx cI q sh sp ld (upd nm a1 (nI (32768 * a3 + a2))) tx ds ct co (nI 0) ks ++ (wm cI2 cZ q2 (nI (cd2 (inB (xs (i + 1)) 8) (txB (xs (i + 2)) (xs (i + 3))))) sh sp ld (upd nm2 a1 (nI a2)) (upd nk a1 (nI a3)) tx2 mn ds ct2 co st at0 ha tk) ++ [wo o cJ f]) H := hP.sub [0, 1, 2, 3, 4, 5, 6, 7, 8, 10, 11, 12, 13, 14, 15, 16, 17, 18, 19, 20, 9] rfl
      have hD : va_D _ (wx cI q sh sp ld (upd nm a1 (nI (32768 * a3 + a2))) tx ds ct co (nI 0) ks ++ (wm cI2 cZ q2 (nI (cd2 (inB (xs (i + 1)) 8) (txB (xs (i + 2)) (xs (i + 3))))) sh sp ld (upd nm2 a1 (nI a2)) (upd nk a1 (nI a3)) tx2 mn ds ct2 co st at0 ha tk) ++ [wo o cJ f]) := hD.sub [0, 1, 2, 3, 4, 5, 6, 7, 8, 10, 11, 12, 13, 14, 15, 16, 17, 18, 19, 20, 9] (by decide) rfl
      refine lv_aload_n hx hb dL_law_584 rfl (lv_at hl 3 rfl) ?_
      refine k_callVi (As := []) (rest := []) ⟨hx, hb, hml, hown, hts⟩ (c_X1_thrown l D cI2 cZ q2 (nI (cd2 (inB (xs (i + 1)) 8) (txB (xs (i + 2)) (xs (i + 3))))) sh sp ld (upd nm2 a1 (nI a2)) (upd nk a1 (nI a3)) tx2 mn ds ct2 co st at0 ha tk) (cwV 0 hts gL_law_X1_thrown rfl rfl rfl (by decide +kernel) ⟨Nat.le_of_ble_eq_true rfl, Nat.le_of_ble_eq_true rfl⟩) k_B_bl (k_B_of (hP.sub [9, 10, 11, 12, 13, 14, 15, 16, 17, 18, 19] rfl) (hK.sub [1, 2] rfl)) (va_recv hK hP (ci := 1) (q0 := 9) rfl rfl) rfl hl.1 rfl (Nat.le_of_ble_eq_true rfl) dL_law_585 ⟨Nat.le_trans (Nat.le_refl _) hcc, Nat.le_trans (Nat.le_refl _) hss⟩ ?_
      refine lv_as (y := nI (0)) (congrArg nI hc2) ?_
      refine lv_iload hx hb dL_law_588 (lv_at hl 0 rfl) ?_
      refine lv_icmp_eq (tgt := 595) hx hb dL_law_590 (by decide) (fun _ => ?_) (fun h9 => absurd rfl h9)
      refine lv_goto (tgt := 1298) hx hb dL_law_595 (by decide) ?_
      refine hk H locs ls ?_ (lv_sub hl [1, 2, 3, 4, 5] rfl)
      exact lwI_mk (hR.name hp4 hp5) hP hD hS
set_option maxHeartbeats 4000000 in
set_option maxRecDepth 100000 in
theorem lo_textWidth {p : Program} {l : Launch} {e : Env} {s : State} {m : MethodId} {below : List Frame} {meth : Method} {c : Code} {b L : Nat} {xs : Nat → Int32} {Q : State → Prop} {D : va_G} {cI cI2 cZ cJ : ClassId} {q q2 : Nat → Nat} {o : Nat} (hC : lwC p l s m meth c b L xs D cI cI2 cZ cJ) {i : Nat} (hi : i + 7 ≤ L) {cells slots : Nat} (hcc : cells + 8 ≤ room_1.cells) (hss : slots + 48 ≤ room_1.slots) {H : Heap} {locs : List Loc} (hI : lwI D cI q cI2 cZ q2 o cJ s H locs) {ls : Array Slot} (hl : lv_has ls 7 (lwL b q q2 o i)) (hk : ∀ (H : Heap) (locs : List Loc) (ls : Array Slot), lwI D cI q cI2 cZ q2 o cJ s H locs → lv_has ls 7 (lwL b q q2 o i) → W p l e room_1 s m #[Value.ref b] below meth c H locs (cells + 8) (slots + 48) Q (F0 m 1298 ls [])) : W p l e room_1 s m #[Value.ref b] below meth c H locs cells slots Q (F0 m 598 ls []) := by
  obtain ⟨C0, hst, hex, hnc, hK, hL⟩ := hC
  obtain ⟨hx, hb, hr, hml, hown, hts0, hX, hbl, hlocks, hgv⟩ := id C0
  have hts : ∀ w ∈ wsL_law, w.before #[Value.ref b] s = true := fun w h => hts0 w (wsL_law_in w h)
  have hown : s.vm.findClass RL = some m.cls := hown
  have hbA : ¬ (fun a : Nat => s.heap.size ≤ a) b := Nat.not_le.mpr hbl
  obtain ⟨sh, sp, ld, nm, tx, ds, ct, co, kg, ks, th, nm2, nk, tx2, mn, ct2, st, at0, ha, tk, f, T, K, T2, Ld, NT, NK, hR, hP, hD, hS⟩ := hI
  have hl : lv_has ls 7 [(4, .int (nI i)), (3, .ref o), (2, .ref (q2 0)), (1, .ref (q 0)), (0, .ref b)] := hl
  refine lv_aload_n hx hb dL_law_598 rfl (lv_at hl 3 rfl) ?_
  refine lv_aload_n hx hb dL_law_599 rfl (lv_at hl 4 rfl) ?_
  refine lv_iload hx hb dL_law_600 (lv_at hl 0 rfl) ?_
  refine lv_iconst (v := nI 1) hx hb dL_law_602 (by decide) ?_
  refine lv_iadd hx hb dL_law_603 ?_
  refine lv_as (y := nI (i + 1)) (nI_add _ _) ?_
  refine n_sld hx hb hX hbl hbA hS (k := i + 1) (by omega) (by omega) dL_law_604 ?_
  refine lv_aload_n hx hb dL_law_605 rfl (lv_at hl 4 rfl) ?_
  refine lv_iload hx hb dL_law_606 (lv_at hl 0 rfl) ?_
  refine lv_iconst (v := nI 2) hx hb dL_law_608 (by decide) ?_
  refine lv_iadd hx hb dL_law_609 ?_
  refine lv_as (y := nI (i + 2)) (nI_add _ _) ?_
  refine n_sld hx hb hX hbl hbA hS (k := i + 2) (by omega) (by omega) dL_law_610 ?_
  refine lv_aload_n hx hb dL_law_611 rfl (lv_at hl 1 rfl) ?_
  refine k_callTW (wr := (wm cI2 cZ q2 th sh sp ld nm2 nk tx2 mn ds ct2 co st at0 ha tk)) (As := [.ref (q 0), .int (xs (i + 1)), .int (xs (i + 2)), .ref o]) (rest := []) ⟨hx, hb, hml, hown, hts⟩ (c_L_textWidth l hst D cI q sh sp ld nm tx ds ct co kg ks (xs (i + 1)) (xs (i + 2)) o cJ f (k_D_tt (hD.sub [0, 1, 2, 3, 4, 5, 6, 7, 8, 20] (by decide) rfl))) (vx_cwSW 4 hts gL_law_L_textWidth rfl rfl rfl (by decide +kernel) ⟨Nat.le_of_ble_eq_true rfl, Nat.le_of_ble_eq_true rfl⟩) (k_en_bl k_B_bl) (fun U hU hW => ⟨k_B_of (hP.sub [0, 1, 2, 3, 4, 5, 6, 7, 8, 20] rfl) (hK.sub [0, 3] rfl) U hU hW, k_ex_mv hex hS (fun a h => Nat.not_le.mpr h) U hU hW, k_nc_of hnc U hW⟩) rfl hl.1 rfl (Nat.le_of_ble_eq_true rfl) dL_law_612 ⟨hcc, hss⟩ hP hD hS [9, 10, 11, 12, 13, 14, 15, 16, 17, 18, 19] [0, 1, 2, 3, 4, 5, 6, 7, 8, 20] rfl rfl (fun u => by cases u <;> rfl) (fun u H locs hu hP hD hS => ?_)
  have hcd : cd1 (txB (xs (i + 1)) (xs (i + 2))) = cd1 (txB (xs (i + 1)) (xs (i + 2))) := rfl
  rcases lw_or0 hu with ⟨rfl, hc⟩ | ⟨u1, rfl, hc, hpx⟩
  · skip
    have hP : va_P D vwCl (wx cI q sh sp ld nm tx ds ct co kg ks ++ wm cI2 cZ q2 th sh sp ld nm2 nk tx2 mn ds ct2 co st at0 ha tk ++ [wo o cJ f]) H := hP.sub [11, 12, 13, 14, 15, 16, 17, 18, 19, 0, 1, 2, 3, 4, 5, 6, 7, 8, 9, 10, 20] rfl
    have hD : va_D _ (wx cI q sh sp ld nm tx ds ct co kg ks ++ wm cI2 cZ q2 th sh sp ld nm2 nk tx2 mn ds ct2 co st at0 ha tk ++ [wo o cJ f]) := hD.sub [11, 12, 13, 14, 15, 16, 17, 18, 19, 0, 1, 2, 3, 4, 5, 6, 7, 8, 9, 10, 20] (by decide) rfl
    refine lv_istore (lv' := [(5, .int (nI (cd1 (txB (xs (i + 1)) (xs (i + 2)))))), (4, .int (nI i)), (3, .ref o), (2, .ref (q2 0)), (1, .ref (q 0)), (0, .ref b)]) hx hb dL_law_615 hl (by decide) rfl (fun ls hl => ?_)
    refine lv_aload_n hx hb dL_law_617 rfl (lv_at hl 3 rfl) ?_
    refine lv_aload_n hx hb dL_law_618 rfl (lv_at hl 5 rfl) ?_
    refine lv_iload hx hb dL_law_619 (lv_at hl 1 rfl) ?_
    refine lv_iconst (v := nI 1) hx hb dL_law_621 (by decide) ?_
    refine lv_iadd hx hb dL_law_622 ?_
    refine lv_as (y := nI (i + 1)) (nI_add _ _) ?_
    refine n_sld hx hb hX hbl hbA hS (k := i + 1) (by omega) (by omega) dL_law_623 ?_
    refine lv_aload_n hx hb dL_law_624 rfl (lv_at hl 5 rfl) ?_
    refine lv_iload hx hb dL_law_625 (lv_at hl 1 rfl) ?_
    refine lv_iconst (v := nI 2) hx hb dL_law_627 (by decide) ?_
    refine lv_iadd hx hb dL_law_628 ?_
    refine lv_as (y := nI (i + 2)) (nI_add _ _) ?_
    refine n_sld hx hb hX hbl hbA hS (k := i + 2) (by omega) (by omega) dL_law_629 ?_
    refine k_callVW (wr := (wx cI q sh sp ld nm tx ds ct co kg ks ++ [wo o cJ f])) (As := [.int (xs (i + 1)), .int (xs (i + 2))]) (rest := []) ⟨hx, hb, hml, hown, hts⟩ (c_X1_textWidth l D cI2 cZ q2 th sh sp ld nm2 nk tx2 mn ds ct2 co st at0 ha tk (xs (i + 1)) (xs (i + 2)) (k_D_tt (hD.sub [9, 10, 11, 12, 13, 14, 15, 16, 17, 18, 19] (by decide) rfl))) (cwV 2 hts gL_law_X1_textWidth rfl rfl rfl (by decide +kernel) ⟨Nat.le_of_ble_eq_true rfl, Nat.le_of_ble_eq_true rfl⟩) k_B_bl (k_B_of (hP.sub [9, 10, 11, 12, 13, 14, 15, 16, 17, 18, 19] rfl) (hK.sub [1, 2] rfl)) (va_recv hK hP (ci := 1) (q0 := 9) rfl rfl) rfl hl.1 rfl (Nat.le_of_ble_eq_true rfl) dL_law_630 ⟨hcc, hss⟩ hP hD hS [0, 1, 2, 3, 4, 5, 6, 7, 8, 20] [9, 10, 11, 12, 13, 14, 15, 16, 17, 18, 19] rfl rfl (fun _ => rfl) (fun v H locs hv hP hD hS _ _ => ?_)
    obtain ⟨v1, vo⟩ := v
    obtain ⟨hv1, hv2⟩ := hv
    rcases lw_or0 hv2 with ⟨hvo, hc2⟩ | ⟨v2, hvo, hc2, hv3⟩
    · skip
      have hv1 : v1 = nI (cd1 (txB (xs (i + 1)) (xs (i + 2)))) := hv1
      have hvo : vo = _ := hvo
      subst hvo
      subst hv1
      have hP : va_P D vwCl (wx cI q sh sp ld nm tx ds ct co kg ks ++ (wm cI2 cZ q2 (nI (cd1 (txB (xs (i + 1)) (xs (i + 2))))) sh sp ld nm2 nk tx2 mn ds ct2 co st at0 ha tk) ++ [wo o cJ f]) H := hP.sub [0, 1, 2, 3, 4, 5, 6, 7, 8, 10, 11, 12, 13, 14, 15, 16, 17, 18, 19, 20, 9] rfl
      have hD : va_D _ (wx cI q sh sp ld nm tx ds ct co kg ks ++ (wm cI2 cZ q2 (nI (cd1 (txB (xs (i + 1)) (xs (i + 2))))) sh sp ld nm2 nk tx2 mn ds ct2 co st at0 ha tk) ++ [wo o cJ f]) := hD.sub [0, 1, 2, 3, 4, 5, 6, 7, 8, 10, 11, 12, 13, 14, 15, 16, 17, 18, 19, 20, 9] (by decide) rfl
      refine lv_istore (lv' := [(6, .int (nI 0)), (5, .int (nI (cd1 (txB (xs (i + 1)) (xs (i + 2)))))), (4, .int (nI i)), (3, .ref o), (2, .ref (q2 0)), (1, .ref (q 0)), (0, .ref b)]) hx hb dL_law_633 hl (by decide) rfl (fun ls hl => ?_)
      refine lv_aload_n hx hb dL_law_635 rfl (lv_at hl 4 rfl) ?_
      refine k_callVi (As := []) (rest := []) ⟨hx, hb, hml, hown, hts⟩ (c_X1_thrown l D cI2 cZ q2 (nI (cd1 (txB (xs (i + 1)) (xs (i + 2))))) sh sp ld nm2 nk tx2 mn ds ct2 co st at0 ha tk) (cwV 0 hts gL_law_X1_thrown rfl rfl rfl (by decide +kernel) ⟨Nat.le_of_ble_eq_true rfl, Nat.le_of_ble_eq_true rfl⟩) k_B_bl (k_B_of (hP.sub [9, 10, 11, 12, 13, 14, 15, 16, 17, 18, 19] rfl) (hK.sub [1, 2] rfl)) (va_recv hK hP (ci := 1) (q0 := 9) rfl rfl) rfl hl.1 rfl (Nat.le_of_ble_eq_true rfl) dL_law_636 ⟨Nat.le_trans (Nat.le_refl _) hcc, Nat.le_trans (Nat.le_refl _) hss⟩ ?_
      refine lv_as (y := nI (cd1 (txB (xs (i + 1)) (xs (i + 2))))) (congrArg nI hcd) ?_
      refine lv_iload hx hb dL_law_639 (lv_at hl 1 rfl) ?_
      refine lv_icmp_eq (tgt := 646) hx hb dL_law_641 (by decide) (fun _ => ?_) (fun h9 => absurd rfl h9)
      refine lv_iload hx hb dL_law_646 (lv_at hl 1 rfl) ?_
      refine n_if_ne (tgt := 663) hx hb dL_law_648 (by decide) (cd1_le _) (fun _ => ?_) (fun h9 => absurd h9 hc)
      refine lv_goto (tgt := 1298) hx hb dL_law_663 (by decide) ?_
      refine hk H locs ls ?_ (lv_sub hl [2, 3, 4, 5, 6] rfl)
      exact lwI_mk (hR) hP hD hS
    · exact absurd (hcd.symm.trans hc2) hc
  · skip
    obtain ⟨a1, a2⟩ := u1
    obtain ⟨hp1, hp2, hp3, hp4, hp5⟩ := hpx
    have hp1 : 1 ≤ a2 := hp1
    have hp2 : a2 ≤ 5 := hp2
    have hp3 : a1 < 8 ^ a2 := hp3
    have hp4 : (xs (i + 1)) = nI a1 := hp4
    have hp5 : (xs (i + 2)) = nI a2 := hp5
    have hP : va_P D vwCl (wx cI q sh sp ld nm tx ds ct co kg ks ++ wm cI2 cZ q2 th sh sp ld nm2 nk tx2 mn ds ct2 co st at0 ha tk ++ [wo o cJ (vp_updL f 0 ((pwC (wdS sh) sp a1 a2).toInt64))]) H := hP.sub [11, 12, 13, 14, 15, 16, 17, 18, 19, 0, 1, 2, 3, 4, 5, 6, 7, 8, 9, 10, 20] rfl
    have hD : va_D _ (wx cI q sh sp ld nm tx ds ct co kg ks ++ wm cI2 cZ q2 th sh sp ld nm2 nk tx2 mn ds ct2 co st at0 ha tk ++ [wo o cJ (vp_updL f 0 ((pwC (wdS sh) sp a1 a2).toInt64))]) := hD.sub [11, 12, 13, 14, 15, 16, 17, 18, 19, 0, 1, 2, 3, 4, 5, 6, 7, 8, 9, 10, 20] (by decide) rfl
    refine lv_istore (lv' := [(5, .int (nI (0))), (4, .int (nI i)), (3, .ref o), (2, .ref (q2 0)), (1, .ref (q 0)), (0, .ref b)]) hx hb dL_law_615 hl (by decide) rfl (fun ls hl => ?_)
    refine lv_aload_n hx hb dL_law_617 rfl (lv_at hl 3 rfl) ?_
    refine lv_aload_n hx hb dL_law_618 rfl (lv_at hl 5 rfl) ?_
    refine lv_iload hx hb dL_law_619 (lv_at hl 1 rfl) ?_
    refine lv_iconst (v := nI 1) hx hb dL_law_621 (by decide) ?_
    refine lv_iadd hx hb dL_law_622 ?_
    refine lv_as (y := nI (i + 1)) (nI_add _ _) ?_
    refine n_sld hx hb hX hbl hbA hS (k := i + 1) (by omega) (by omega) dL_law_623 ?_
    refine lv_aload_n hx hb dL_law_624 rfl (lv_at hl 5 rfl) ?_
    refine lv_iload hx hb dL_law_625 (lv_at hl 1 rfl) ?_
    refine lv_iconst (v := nI 2) hx hb dL_law_627 (by decide) ?_
    refine lv_iadd hx hb dL_law_628 ?_
    refine lv_as (y := nI (i + 2)) (nI_add _ _) ?_
    refine n_sld hx hb hX hbl hbA hS (k := i + 2) (by omega) (by omega) dL_law_629 ?_
    refine k_callVW (wr := (wx cI q sh sp ld nm tx ds ct co kg ks ++ [wo o cJ (vp_updL f 0 ((pwC (wdS sh) sp a1 a2).toInt64))])) (As := [.int (xs (i + 1)), .int (xs (i + 2))]) (rest := []) ⟨hx, hb, hml, hown, hts⟩ (c_X1_textWidth l D cI2 cZ q2 th sh sp ld nm2 nk tx2 mn ds ct2 co st at0 ha tk (xs (i + 1)) (xs (i + 2)) (k_D_tt (hD.sub [9, 10, 11, 12, 13, 14, 15, 16, 17, 18, 19] (by decide) rfl))) (cwV 2 hts gL_law_X1_textWidth rfl rfl rfl (by decide +kernel) ⟨Nat.le_of_ble_eq_true rfl, Nat.le_of_ble_eq_true rfl⟩) k_B_bl (k_B_of (hP.sub [9, 10, 11, 12, 13, 14, 15, 16, 17, 18, 19] rfl) (hK.sub [1, 2] rfl)) (va_recv hK hP (ci := 1) (q0 := 9) rfl rfl) rfl hl.1 rfl (Nat.le_of_ble_eq_true rfl) dL_law_630 ⟨hcc, hss⟩ hP hD hS [0, 1, 2, 3, 4, 5, 6, 7, 8, 20] [9, 10, 11, 12, 13, 14, 15, 16, 17, 18, 19] rfl rfl (fun _ => rfl) (fun v H locs hv hP hD hS _ _ => ?_)
    obtain ⟨v1, vo⟩ := v
    obtain ⟨hv1, hv2⟩ := hv
    rcases lw_or0 hv2 with ⟨hvo, hc2⟩ | ⟨v2, hvo, hc2, hv3⟩
    · exact absurd (hcd.trans hc) hc2
    · skip
      have hv1 : v1 = nI (cd1 (txB (xs (i + 1)) (xs (i + 2)))) := hv1
      have hvo : vo = _ := hvo
      subst hvo
      subst hv1
      obtain ⟨b1, b2⟩ := v2
      obtain ⟨hq1, hq2, hq3, hq4, hq5⟩ := hv3
      have hq1 : 1 ≤ b2 := hq1
      have hq2 : b2 ≤ 5 := hq2
      have hq3 : b1 < 8 ^ b2 := hq3
      have hq4 : (xs (i + 1)) = nI b1 := hq4
      have hq5 : (xs (i + 2)) = nI b2 := hq5
      have zhp2 := p8_le hp2
      have zhq2 := p8_le hq2
      have hab : a1 = b1 := nI_inj (by omega) (by omega) (hp4.symm.trans hq4)
      subst hab
      have hab : a2 = b2 := nI_inj (by omega) (by omega) (hp5.symm.trans hq5)
      subst hab
      have hP : va_P D vwCl (wx cI q sh sp ld nm tx ds ct co kg ks ++ (wm cI2 cZ q2 (nI (cd1 (txB (xs (i + 1)) (xs (i + 2))))) sh sp ld nm2 nk tx2 mn ds ct2 co st at0 ha tk) ++ [wo o cJ (vp_updL f 0 ((pwC (wdS sh) sp a1 a2).toInt64))]) H := hP.sub [0, 1, 2, 3, 4, 5, 6, 7, 8, 10, 11, 12, 13, 14, 15, 16, 17, 18, 19, 20, 9] rfl
      have hD : va_D _ (wx cI q sh sp ld nm tx ds ct co kg ks ++ (wm cI2 cZ q2 (nI (cd1 (txB (xs (i + 1)) (xs (i + 2))))) sh sp ld nm2 nk tx2 mn ds ct2 co st at0 ha tk) ++ [wo o cJ (vp_updL f 0 ((pwC (wdS sh) sp a1 a2).toInt64))]) := hD.sub [0, 1, 2, 3, 4, 5, 6, 7, 8, 10, 11, 12, 13, 14, 15, 16, 17, 18, 19, 20, 9] (by decide) rfl
      refine lv_istore (lv' := [(6, .int (pwR (wdR sh) sp a1 a2 a2)), (5, .int (nI (0))), (4, .int (nI i)), (3, .ref o), (2, .ref (q2 0)), (1, .ref (q 0)), (0, .ref b)]) hx hb dL_law_633 hl (by decide) rfl (fun ls hl => ?_)
      refine lv_aload_n hx hb dL_law_635 rfl (lv_at hl 4 rfl) ?_
      refine k_callVi (As := []) (rest := []) ⟨hx, hb, hml, hown, hts⟩ (c_X1_thrown l D cI2 cZ q2 (nI (cd1 (txB (xs (i + 1)) (xs (i + 2))))) sh sp ld nm2 nk tx2 mn ds ct2 co st at0 ha tk) (cwV 0 hts gL_law_X1_thrown rfl rfl rfl (by decide +kernel) ⟨Nat.le_of_ble_eq_true rfl, Nat.le_of_ble_eq_true rfl⟩) k_B_bl (k_B_of (hP.sub [9, 10, 11, 12, 13, 14, 15, 16, 17, 18, 19] rfl) (hK.sub [1, 2] rfl)) (va_recv hK hP (ci := 1) (q0 := 9) rfl rfl) rfl hl.1 rfl (Nat.le_of_ble_eq_true rfl) dL_law_636 ⟨Nat.le_trans (Nat.le_refl _) hcc, Nat.le_trans (Nat.le_refl _) hss⟩ ?_
      refine lv_as (y := nI (0)) (congrArg nI hc2) ?_
      refine lv_iload hx hb dL_law_639 (lv_at hl 1 rfl) ?_
      refine lv_icmp_eq (tgt := 646) hx hb dL_law_641 (by decide) (fun _ => ?_) (fun h9 => absurd rfl h9)
      refine lv_iload hx hb dL_law_646 (lv_at hl 1 rfl) ?_
      refine n_if_ne (tgt := 663) hx hb dL_law_648 (by decide) (by decide) (fun h9 => absurd h9 (by decide)) (fun _ => ?_)
      refine lv_aload_n hx hb dL_law_651 rfl (lv_at hl 3 rfl) ?_
      refine lv_iconst (v := nI 0) hx hb dL_law_652 (by decide) ?_
      refine n_lald hx hb hK hP 20 3 rfl rfl dL_law_653 ?_
      refine lv_iload hx hb dL_law_654 (lv_at hl 0 rfl) ?_
      have hans : (pwC (wdS sh) sp a1 a2) = pwR (wdR sh) sp a1 a2 a2 := by rw [wd_eq, pw_eq _ _ _ hp2]
      refine lv_i2l (v := (pwR (wdR sh) sp a1 a2 a2).toInt64) hx hb dL_law_656 rfl ?_
      refine n_lcmpEq hx hb (congrArg Int32.toInt64 hans) dL_law_657 ?_
      refine n_if_eq (tgt := 663) hx hb dL_law_658 (by decide) (by decide) (fun _ => ?_) (fun h9 => absurd h9 (by decide))
      refine lv_goto (tgt := 1298) hx hb dL_law_663 (by decide) ?_
      refine hk H locs ls ?_ (lv_sub hl [2, 3, 4, 5, 6] rfl)
      exact lwI_mk (hR) hP hD hS
set_option maxHeartbeats 4000000 in
set_option maxRecDepth 100000 in
theorem lo_cut {p : Program} {l : Launch} {e : Env} {s : State} {m : MethodId} {below : List Frame} {meth : Method} {c : Code} {b L : Nat} {xs : Nat → Int32} {Q : State → Prop} {D : va_G} {cI cI2 cZ cJ : ClassId} {q q2 : Nat → Nat} {o : Nat} (hC : lwC p l s m meth c b L xs D cI cI2 cZ cJ) {i : Nat} (hi : i + 7 ≤ L) {cells slots : Nat} (hcc : cells + 8 ≤ room_1.cells) (hss : slots + 48 ≤ room_1.slots) {H : Heap} {locs : List Loc} (hI : lwI D cI q cI2 cZ q2 o cJ s H locs) {ls : Array Slot} (hl : lv_has ls 7 (lwL b q q2 o i)) (hk : ∀ (H : Heap) (locs : List Loc) (ls : Array Slot), lwI D cI q cI2 cZ q2 o cJ s H locs → lv_has ls 7 (lwL b q q2 o i) → W p l e room_1 s m #[Value.ref b] below meth c H locs (cells + 8) (slots + 48) Q (F0 m 1298 ls [])) : W p l e room_1 s m #[Value.ref b] below meth c H locs cells slots Q (F0 m 666 ls []) := by
  obtain ⟨C0, hst, hex, hnc, hK, hL⟩ := hC
  obtain ⟨hx, hb, hr, hml, hown, hts0, hX, hbl, hlocks, hgv⟩ := id C0
  have hts : ∀ w ∈ wsL_law, w.before #[Value.ref b] s = true := fun w h => hts0 w (wsL_law_in w h)
  have hown : s.vm.findClass RL = some m.cls := hown
  have hbA : ¬ (fun a : Nat => s.heap.size ≤ a) b := Nat.not_le.mpr hbl
  obtain ⟨sh, sp, ld, nm, tx, ds, ct, co, kg, ks, th, nm2, nk, tx2, mn, ct2, st, at0, ha, tk, f, T, K, T2, Ld, NT, NK, hR, hP, hD, hS⟩ := hI
  have hl : lv_has ls 7 [(4, .int (nI i)), (3, .ref o), (2, .ref (q2 0)), (1, .ref (q 0)), (0, .ref b)] := hl
  refine lv_aload_n hx hb dL_law_666 rfl (lv_at hl 3 rfl) ?_
  refine lv_aload_n hx hb dL_law_667 rfl (lv_at hl 4 rfl) ?_
  refine lv_iload hx hb dL_law_668 (lv_at hl 0 rfl) ?_
  refine lv_iconst (v := nI 1) hx hb dL_law_670 (by decide) ?_
  refine lv_iadd hx hb dL_law_671 ?_
  refine lv_as (y := nI (i + 1)) (nI_add _ _) ?_
  refine n_sld hx hb hX hbl hbA hS (k := i + 1) (by omega) (by omega) dL_law_672 ?_
  refine lv_aload_n hx hb dL_law_673 rfl (lv_at hl 4 rfl) ?_
  refine lv_iload hx hb dL_law_674 (lv_at hl 0 rfl) ?_
  refine lv_iconst (v := nI 2) hx hb dL_law_676 (by decide) ?_
  refine lv_iadd hx hb dL_law_677 ?_
  refine lv_as (y := nI (i + 2)) (nI_add _ _) ?_
  refine n_sld hx hb hX hbl hbA hS (k := i + 2) (by omega) (by omega) dL_law_678 ?_
  refine lv_aload_n hx hb dL_law_679 rfl (lv_at hl 4 rfl) ?_
  refine lv_iload hx hb dL_law_680 (lv_at hl 0 rfl) ?_
  refine lv_iconst (v := nI 3) hx hb dL_law_682 (by decide) ?_
  refine lv_iadd hx hb dL_law_683 ?_
  refine lv_as (y := nI (i + 3)) (nI_add _ _) ?_
  refine n_sld hx hb hX hbl hbA hS (k := i + 3) (by omega) (by omega) dL_law_684 ?_
  refine lv_aload_n hx hb dL_law_685 rfl (lv_at hl 4 rfl) ?_
  refine lv_iload hx hb dL_law_686 (lv_at hl 0 rfl) ?_
  refine lv_iconst (v := nI 4) hx hb dL_law_688 (by decide) ?_
  refine lv_iadd hx hb dL_law_689 ?_
  refine lv_as (y := nI (i + 4)) (nI_add _ _) ?_
  refine n_sld hx hb hX hbl hbA hS (k := i + 4) (by omega) (by omega) dL_law_690 ?_
  refine lv_aload_n hx hb dL_law_691 rfl (lv_at hl 4 rfl) ?_
  refine lv_iload hx hb dL_law_692 (lv_at hl 0 rfl) ?_
  refine lv_iconst (v := nI 5) hx hb dL_law_694 (by decide) ?_
  refine lv_iadd hx hb dL_law_695 ?_
  refine lv_as (y := nI (i + 5)) (nI_add _ _) ?_
  refine n_sld hx hb hX hbl hbA hS (k := i + 5) (by omega) (by omega) dL_law_696 ?_
  refine lv_aload_n hx hb dL_law_697 rfl (lv_at hl 1 rfl) ?_
  refine k_callTW (wr := (wm cI2 cZ q2 th sh sp ld nm2 nk tx2 mn ds ct2 co st at0 ha tk)) (As := [.ref (q 0), .int (xs (i + 1)), .int (xs (i + 2)), .int (xs (i + 3)), .int (xs (i + 4)), .int (xs (i + 5)), .ref o]) (rest := []) ⟨hx, hb, hml, hown, hts⟩ (c_L_cut l hst D cI q sh sp ld nm tx ds ct co kg ks (xs (i + 1)) (xs (i + 2)) (xs (i + 3)) (xs (i + 4)) (xs (i + 5)) o cJ f (k_D_tt (hD.sub [0, 1, 2, 3, 4, 5, 6, 7, 8, 20] (by decide) rfl))) (vx_cwSW 7 hts gL_law_L_cut rfl rfl rfl (by decide +kernel) ⟨Nat.le_of_ble_eq_true rfl, Nat.le_of_ble_eq_true rfl⟩) (k_en_bl k_B_bl) (fun U hU hW => ⟨k_B_of (hP.sub [0, 1, 2, 3, 4, 5, 6, 7, 8, 20] rfl) (hK.sub [0, 3] rfl) U hU hW, k_ex_mv hex hS (fun a h => Nat.not_le.mpr h) U hU hW, k_nc_of hnc U hW⟩) rfl hl.1 rfl (Nat.le_of_ble_eq_true rfl) dL_law_698 ⟨hcc, hss⟩ hP hD hS [9, 10, 11, 12, 13, 14, 15, 16, 17, 18, 19] [0, 1, 2, 3, 4, 5, 6, 7, 8, 20] rfl rfl (fun u => by cases u <;> rfl) (fun u H locs hu hP hD hS => ?_)
  have hcd : cd3 (inB (xs (i + 1)) 8 && inB (xs (i + 2)) 4) (txB (xs (i + 3)) (xs (i + 4)) && inB (xs (i + 5)) 10) (!decide (plF (pwR (wdR sh) sp (xs (i + 3)).toNatClampNeg (xs (i + 4)).toNatClampNeg (xs (i + 4)).toNatClampNeg) = -1)) = cd3 (inB (xs (i + 1)) 8 && inB (xs (i + 2)) 4) (txB (xs (i + 3)) (xs (i + 4)) && inB (xs (i + 5)) 10) (!decide (plF (pwC (wdS sh) sp (xs (i + 3)).toNatClampNeg (xs (i + 4)).toNatClampNeg) = -1)) := cd3_cong (fun h => by
    obtain ⟨t9, k9, -, h2, -, -, h5⟩ := txB_ex (Bool.and_eq_true_iff.mp h).1
    rw [pw_eq (wdS sh) sp _ (show (xs (i + 4)).toNatClampNeg ≤ 5 from by rw [h5, nI_clamp (by omega)]; exact h2), wd_eq])
  rcases lw_or0 hu with ⟨rfl, hc⟩ | ⟨u1, rfl, hc, hpx⟩
  · skip
    have hP : va_P D vwCl (wx cI q sh sp ld nm tx ds ct co kg ks ++ wm cI2 cZ q2 th sh sp ld nm2 nk tx2 mn ds ct2 co st at0 ha tk ++ [wo o cJ f]) H := hP.sub [11, 12, 13, 14, 15, 16, 17, 18, 19, 0, 1, 2, 3, 4, 5, 6, 7, 8, 9, 10, 20] rfl
    have hD : va_D _ (wx cI q sh sp ld nm tx ds ct co kg ks ++ wm cI2 cZ q2 th sh sp ld nm2 nk tx2 mn ds ct2 co st at0 ha tk ++ [wo o cJ f]) := hD.sub [11, 12, 13, 14, 15, 16, 17, 18, 19, 0, 1, 2, 3, 4, 5, 6, 7, 8, 9, 10, 20] (by decide) rfl
    refine lv_istore (lv' := [(5, .int (nI (cd3 (inB (xs (i + 1)) 8 && inB (xs (i + 2)) 4) (txB (xs (i + 3)) (xs (i + 4)) && inB (xs (i + 5)) 10) (!decide (plF (pwC (wdS sh) sp (xs (i + 3)).toNatClampNeg (xs (i + 4)).toNatClampNeg) = -1))))), (4, .int (nI i)), (3, .ref o), (2, .ref (q2 0)), (1, .ref (q 0)), (0, .ref b)]) hx hb dL_law_701 hl (by decide) rfl (fun ls hl => ?_)
    refine lv_aload_n hx hb dL_law_703 rfl (lv_at hl 3 rfl) ?_
    refine lv_aload_n hx hb dL_law_704 rfl (lv_at hl 5 rfl) ?_
    refine lv_iload hx hb dL_law_705 (lv_at hl 1 rfl) ?_
    refine lv_iconst (v := nI 1) hx hb dL_law_707 (by decide) ?_
    refine lv_iadd hx hb dL_law_708 ?_
    refine lv_as (y := nI (i + 1)) (nI_add _ _) ?_
    refine n_sld hx hb hX hbl hbA hS (k := i + 1) (by omega) (by omega) dL_law_709 ?_
    refine lv_aload_n hx hb dL_law_710 rfl (lv_at hl 5 rfl) ?_
    refine lv_iload hx hb dL_law_711 (lv_at hl 1 rfl) ?_
    refine lv_iconst (v := nI 2) hx hb dL_law_713 (by decide) ?_
    refine lv_iadd hx hb dL_law_714 ?_
    refine lv_as (y := nI (i + 2)) (nI_add _ _) ?_
    refine n_sld hx hb hX hbl hbA hS (k := i + 2) (by omega) (by omega) dL_law_715 ?_
    refine lv_aload_n hx hb dL_law_716 rfl (lv_at hl 5 rfl) ?_
    refine lv_iload hx hb dL_law_717 (lv_at hl 1 rfl) ?_
    refine lv_iconst (v := nI 3) hx hb dL_law_719 (by decide) ?_
    refine lv_iadd hx hb dL_law_720 ?_
    refine lv_as (y := nI (i + 3)) (nI_add _ _) ?_
    refine n_sld hx hb hX hbl hbA hS (k := i + 3) (by omega) (by omega) dL_law_721 ?_
    refine lv_aload_n hx hb dL_law_722 rfl (lv_at hl 5 rfl) ?_
    refine lv_iload hx hb dL_law_723 (lv_at hl 1 rfl) ?_
    refine lv_iconst (v := nI 4) hx hb dL_law_725 (by decide) ?_
    refine lv_iadd hx hb dL_law_726 ?_
    refine lv_as (y := nI (i + 4)) (nI_add _ _) ?_
    refine n_sld hx hb hX hbl hbA hS (k := i + 4) (by omega) (by omega) dL_law_727 ?_
    refine lv_aload_n hx hb dL_law_728 rfl (lv_at hl 5 rfl) ?_
    refine lv_iload hx hb dL_law_729 (lv_at hl 1 rfl) ?_
    refine lv_iconst (v := nI 5) hx hb dL_law_731 (by decide) ?_
    refine lv_iadd hx hb dL_law_732 ?_
    refine lv_as (y := nI (i + 5)) (nI_add _ _) ?_
    refine n_sld hx hb hX hbl hbA hS (k := i + 5) (by omega) (by omega) dL_law_733 ?_
    refine k_callVW (wr := (wx cI q sh sp ld nm tx ds ct co kg ks ++ [wo o cJ f])) (As := [.int (xs (i + 1)), .int (xs (i + 2)), .int (xs (i + 3)), .int (xs (i + 4)), .int (xs (i + 5))]) (rest := []) ⟨hx, hb, hml, hown, hts⟩ (c_X1_cut l D cI2 cZ q2 th sh sp ld nm2 nk tx2 mn ds ct2 co st at0 ha tk (xs (i + 1)) (xs (i + 2)) (xs (i + 3)) (xs (i + 4)) (xs (i + 5)) (k_D_tt (hD.sub [9, 10, 11, 12, 13, 14, 15, 16, 17, 18, 19] (by decide) rfl))) (cwV 5 hts gL_law_X1_cut rfl rfl rfl (by decide +kernel) ⟨Nat.le_of_ble_eq_true rfl, Nat.le_of_ble_eq_true rfl⟩) k_B_bl (k_B_of (hP.sub [9, 10, 11, 12, 13, 14, 15, 16, 17, 18, 19] rfl) (hK.sub [1, 2] rfl)) (va_recv hK hP (ci := 1) (q0 := 9) rfl rfl) rfl hl.1 rfl (Nat.le_of_ble_eq_true rfl) dL_law_734 ⟨hcc, hss⟩ hP hD hS [0, 1, 2, 3, 4, 5, 6, 7, 8, 20] [9, 10, 11, 12, 13, 14, 15, 16, 17, 18, 19] rfl rfl (fun _ => rfl) (fun v H locs hv hP hD hS _ _ => ?_)
    obtain ⟨v1, vo⟩ := v
    obtain ⟨hv1, hv2⟩ := hv
    rcases lw_or0 hv2 with ⟨hvo, hc2⟩ | ⟨v2, hvo, hc2, hv3⟩
    · skip
      have hv1 : v1 = nI (cd3 (inB (xs (i + 1)) 8 && inB (xs (i + 2)) 4) (txB (xs (i + 3)) (xs (i + 4)) && inB (xs (i + 5)) 10) (!decide (plF (pwR (wdR sh) sp (xs (i + 3)).toNatClampNeg (xs (i + 4)).toNatClampNeg (xs (i + 4)).toNatClampNeg) = -1))) := hv1
      have hvo : vo = _ := hvo
      subst hvo
      subst hv1
      have hP : va_P D vwCl (wx cI q sh sp ld nm tx ds ct co kg ks ++ (wm cI2 cZ q2 (nI (cd3 (inB (xs (i + 1)) 8 && inB (xs (i + 2)) 4) (txB (xs (i + 3)) (xs (i + 4)) && inB (xs (i + 5)) 10) (!decide (plF (pwR (wdR sh) sp (xs (i + 3)).toNatClampNeg (xs (i + 4)).toNatClampNeg (xs (i + 4)).toNatClampNeg) = -1)))) sh sp ld nm2 nk tx2 mn ds ct2 co st at0 ha tk) ++ [wo o cJ f]) H := hP.sub [0, 1, 2, 3, 4, 5, 6, 7, 8, 10, 11, 12, 13, 14, 15, 16, 17, 18, 19, 20, 9] rfl
      have hD : va_D _ (wx cI q sh sp ld nm tx ds ct co kg ks ++ (wm cI2 cZ q2 (nI (cd3 (inB (xs (i + 1)) 8 && inB (xs (i + 2)) 4) (txB (xs (i + 3)) (xs (i + 4)) && inB (xs (i + 5)) 10) (!decide (plF (pwR (wdR sh) sp (xs (i + 3)).toNatClampNeg (xs (i + 4)).toNatClampNeg (xs (i + 4)).toNatClampNeg) = -1)))) sh sp ld nm2 nk tx2 mn ds ct2 co st at0 ha tk) ++ [wo o cJ f]) := hD.sub [0, 1, 2, 3, 4, 5, 6, 7, 8, 10, 11, 12, 13, 14, 15, 16, 17, 18, 19, 20, 9] (by decide) rfl
      refine lv_istore (lv' := [(6, .int (nI 0)), (5, .int (nI (cd3 (inB (xs (i + 1)) 8 && inB (xs (i + 2)) 4) (txB (xs (i + 3)) (xs (i + 4)) && inB (xs (i + 5)) 10) (!decide (plF (pwC (wdS sh) sp (xs (i + 3)).toNatClampNeg (xs (i + 4)).toNatClampNeg) = -1))))), (4, .int (nI i)), (3, .ref o), (2, .ref (q2 0)), (1, .ref (q 0)), (0, .ref b)]) hx hb dL_law_737 hl (by decide) rfl (fun ls hl => ?_)
      refine lv_aload_n hx hb dL_law_739 rfl (lv_at hl 4 rfl) ?_
      refine k_callVi (As := []) (rest := []) ⟨hx, hb, hml, hown, hts⟩ (c_X1_thrown l D cI2 cZ q2 (nI (cd3 (inB (xs (i + 1)) 8 && inB (xs (i + 2)) 4) (txB (xs (i + 3)) (xs (i + 4)) && inB (xs (i + 5)) 10) (!decide (plF (pwR (wdR sh) sp (xs (i + 3)).toNatClampNeg (xs (i + 4)).toNatClampNeg (xs (i + 4)).toNatClampNeg) = -1)))) sh sp ld nm2 nk tx2 mn ds ct2 co st at0 ha tk) (cwV 0 hts gL_law_X1_thrown rfl rfl rfl (by decide +kernel) ⟨Nat.le_of_ble_eq_true rfl, Nat.le_of_ble_eq_true rfl⟩) k_B_bl (k_B_of (hP.sub [9, 10, 11, 12, 13, 14, 15, 16, 17, 18, 19] rfl) (hK.sub [1, 2] rfl)) (va_recv hK hP (ci := 1) (q0 := 9) rfl rfl) rfl hl.1 rfl (Nat.le_of_ble_eq_true rfl) dL_law_740 ⟨Nat.le_trans (Nat.le_refl _) hcc, Nat.le_trans (Nat.le_refl _) hss⟩ ?_
      refine lv_as (y := nI (cd3 (inB (xs (i + 1)) 8 && inB (xs (i + 2)) 4) (txB (xs (i + 3)) (xs (i + 4)) && inB (xs (i + 5)) 10) (!decide (plF (pwC (wdS sh) sp (xs (i + 3)).toNatClampNeg (xs (i + 4)).toNatClampNeg) = -1)))) (congrArg nI hcd) ?_
      refine lv_iload hx hb dL_law_743 (lv_at hl 1 rfl) ?_
      refine lv_icmp_eq (tgt := 750) hx hb dL_law_745 (by decide) (fun _ => ?_) (fun h9 => absurd rfl h9)
      refine lv_iload hx hb dL_law_750 (lv_at hl 1 rfl) ?_
      refine n_if_ne (tgt := 767) hx hb dL_law_752 (by decide) (cd3_le _ _ _) (fun _ => ?_) (fun h9 => absurd h9 hc)
      refine lv_goto (tgt := 1298) hx hb dL_law_767 (by decide) ?_
      refine hk H locs ls ?_ (lv_sub hl [2, 3, 4, 5, 6] rfl)
      exact lwI_mk (hR) hP hD hS
    · exact absurd (hcd.symm.trans hc2) hc
  · skip
    obtain ⟨a1, a2, a3, a4⟩ := u1
    obtain ⟨hp1, hp2, hp3, hp4, hp5, hp6, hp7, hp8, hp9⟩ := hpx
    have hp1 : a1 < 8 := hp1
    have hp2 : (xs (i + 1)) = nI a1 := hp2
    have hp3 : a2 < 4 := hp3
    have hp4 : (xs (i + 2)) = nI a2 := hp4
    have hp5 : 1 ≤ a4 := hp5
    have hp6 : a4 ≤ 5 := hp6
    have hp7 : a3 < 8 ^ a4 := hp7
    have hp8 : (xs (i + 3)) = nI a3 := hp8
    have hp9 : (xs (i + 4)) = nI a4 := hp9
    have hP : va_P D vwCl (wx cI q sh sp ld nm (upd tx (a1 * 4 + a2) (nI (32768 * a4 + a3))) (upd ds (a1 * 4 + a2) (xs (i + 5))) (engF sh ct (a1 * 4 + a2) a3 a4) (co + (plF (pwC (wdS sh) sp a3 a4)).toInt64) (nI 0) ks ++ wm cI2 cZ q2 th sh sp ld nm2 nk tx2 mn ds ct2 co st at0 ha tk ++ [wo o cJ (vp_updL f 0 ((plF (pwC (wdS sh) sp a3 a4)).toInt64))]) H := hP.sub [11, 12, 13, 14, 15, 16, 17, 18, 19, 0, 1, 2, 3, 4, 5, 6, 7, 8, 9, 10, 20] rfl
    have hD : va_D _ (wx cI q sh sp ld nm (upd tx (a1 * 4 + a2) (nI (32768 * a4 + a3))) (upd ds (a1 * 4 + a2) (xs (i + 5))) (engF sh ct (a1 * 4 + a2) a3 a4) (co + (plF (pwC (wdS sh) sp a3 a4)).toInt64) (nI 0) ks ++ wm cI2 cZ q2 th sh sp ld nm2 nk tx2 mn ds ct2 co st at0 ha tk ++ [wo o cJ (vp_updL f 0 ((plF (pwC (wdS sh) sp a3 a4)).toInt64))]) := hD.sub [11, 12, 13, 14, 15, 16, 17, 18, 19, 0, 1, 2, 3, 4, 5, 6, 7, 8, 9, 10, 20] (by decide) rfl
    rw [show a1 * 4 + a2 = 4 * a1 + a2 from by omega] at hP hD
    rw [wd_eq, pw_eq _ _ _ hp6] at hP hD
    refine lv_istore (lv' := [(5, .int (nI (0))), (4, .int (nI i)), (3, .ref o), (2, .ref (q2 0)), (1, .ref (q 0)), (0, .ref b)]) hx hb dL_law_701 hl (by decide) rfl (fun ls hl => ?_)
    refine lv_aload_n hx hb dL_law_703 rfl (lv_at hl 3 rfl) ?_
    refine lv_aload_n hx hb dL_law_704 rfl (lv_at hl 5 rfl) ?_
    refine lv_iload hx hb dL_law_705 (lv_at hl 1 rfl) ?_
    refine lv_iconst (v := nI 1) hx hb dL_law_707 (by decide) ?_
    refine lv_iadd hx hb dL_law_708 ?_
    refine lv_as (y := nI (i + 1)) (nI_add _ _) ?_
    refine n_sld hx hb hX hbl hbA hS (k := i + 1) (by omega) (by omega) dL_law_709 ?_
    refine lv_aload_n hx hb dL_law_710 rfl (lv_at hl 5 rfl) ?_
    refine lv_iload hx hb dL_law_711 (lv_at hl 1 rfl) ?_
    refine lv_iconst (v := nI 2) hx hb dL_law_713 (by decide) ?_
    refine lv_iadd hx hb dL_law_714 ?_
    refine lv_as (y := nI (i + 2)) (nI_add _ _) ?_
    refine n_sld hx hb hX hbl hbA hS (k := i + 2) (by omega) (by omega) dL_law_715 ?_
    refine lv_aload_n hx hb dL_law_716 rfl (lv_at hl 5 rfl) ?_
    refine lv_iload hx hb dL_law_717 (lv_at hl 1 rfl) ?_
    refine lv_iconst (v := nI 3) hx hb dL_law_719 (by decide) ?_
    refine lv_iadd hx hb dL_law_720 ?_
    refine lv_as (y := nI (i + 3)) (nI_add _ _) ?_
    refine n_sld hx hb hX hbl hbA hS (k := i + 3) (by omega) (by omega) dL_law_721 ?_
    refine lv_aload_n hx hb dL_law_722 rfl (lv_at hl 5 rfl) ?_
    refine lv_iload hx hb dL_law_723 (lv_at hl 1 rfl) ?_
    refine lv_iconst (v := nI 4) hx hb dL_law_725 (by decide) ?_
    refine lv_iadd hx hb dL_law_726 ?_
    refine lv_as (y := nI (i + 4)) (nI_add _ _) ?_
    refine n_sld hx hb hX hbl hbA hS (k := i + 4) (by omega) (by omega) dL_law_727 ?_
    refine lv_aload_n hx hb dL_law_728 rfl (lv_at hl 5 rfl) ?_
    refine lv_iload hx hb dL_law_729 (lv_at hl 1 rfl) ?_
    refine lv_iconst (v := nI 5) hx hb dL_law_731 (by decide) ?_
    refine lv_iadd hx hb dL_law_732 ?_
    refine lv_as (y := nI (i + 5)) (nI_add _ _) ?_
    refine n_sld hx hb hX hbl hbA hS (k := i + 5) (by omega) (by omega) dL_law_733 ?_
    refine k_callVW (wr := (wx cI q sh sp ld nm (upd tx (4 * a1 + a2) (nI (32768 * a4 + a3))) (upd ds (4 * a1 + a2) (xs (i + 5))) (engF sh ct (4 * a1 + a2) a3 a4) (co + (plF (pwR (wdR sh) sp a3 a4 a4)).toInt64) (nI 0) ks ++ [wo o cJ (vp_updL f 0 ((plF (pwR (wdR sh) sp a3 a4 a4)).toInt64))])) (As := [.int (xs (i + 1)), .int (xs (i + 2)), .int (xs (i + 3)), .int (xs (i + 4)), .int (xs (i + 5))]) (rest := []) ⟨hx, hb, hml, hown, hts⟩ (c_X1_cut l D cI2 cZ q2 th sh sp ld nm2 nk tx2 mn ds ct2 co st at0 ha tk (xs (i + 1)) (xs (i + 2)) (xs (i + 3)) (xs (i + 4)) (xs (i + 5)) (k_D_tt (hD.sub [9, 10, 11, 12, 13, 14, 15, 16, 17, 18, 19] (by decide) rfl))) (cwV 5 hts gL_law_X1_cut rfl rfl rfl (by decide +kernel) ⟨Nat.le_of_ble_eq_true rfl, Nat.le_of_ble_eq_true rfl⟩) k_B_bl (k_B_of (hP.sub [9, 10, 11, 12, 13, 14, 15, 16, 17, 18, 19] rfl) (hK.sub [1, 2] rfl)) (va_recv hK hP (ci := 1) (q0 := 9) rfl rfl) rfl hl.1 rfl (Nat.le_of_ble_eq_true rfl) dL_law_734 ⟨hcc, hss⟩ hP hD hS [0, 1, 2, 3, 4, 5, 6, 7, 8, 20] [9, 10, 11, 12, 13, 14, 15, 16, 17, 18, 19] rfl rfl (fun _ => rfl) (fun v H locs hv hP hD hS _ _ => ?_)
    obtain ⟨v1, vo⟩ := v
    obtain ⟨hv1, hv2⟩ := hv
    rcases lw_or0 hv2 with ⟨hvo, hc2⟩ | ⟨v2, hvo, hc2, hv3⟩
    · exact absurd (hcd.trans hc) hc2
    · skip
      have hv1 : v1 = nI (cd3 (inB (xs (i + 1)) 8 && inB (xs (i + 2)) 4) (txB (xs (i + 3)) (xs (i + 4)) && inB (xs (i + 5)) 10) (!decide (plF (pwR (wdR sh) sp (xs (i + 3)).toNatClampNeg (xs (i + 4)).toNatClampNeg (xs (i + 4)).toNatClampNeg) = -1))) := hv1
      have hvo : vo = _ := hvo
      subst hvo
      subst hv1
      obtain ⟨b1, b2, b3, b4⟩ := v2
      obtain ⟨hq1, hq2, hq3, hq4, hq5, hq6, hq7, hq8, hq9⟩ := hv3
      have hq1 : b1 < 8 := hq1
      have hq2 : (xs (i + 1)) = nI b1 := hq2
      have hq3 : b2 < 4 := hq3
      have hq4 : (xs (i + 2)) = nI b2 := hq4
      have hq5 : 1 ≤ b4 := hq5
      have hq6 : b4 ≤ 5 := hq6
      have hq7 : b3 < 8 ^ b4 := hq7
      have hq8 : (xs (i + 3)) = nI b3 := hq8
      have hq9 : (xs (i + 4)) = nI b4 := hq9
      have zhp6 := p8_le hp6
      have zhq6 := p8_le hq6
      have hab : a1 = b1 := nI_inj (by omega) (by omega) (hp2.symm.trans hq2)
      subst hab
      have hab : a2 = b2 := nI_inj (by omega) (by omega) (hp4.symm.trans hq4)
      subst hab
      have hab : a3 = b3 := nI_inj (by omega) (by omega) (hp8.symm.trans hq8)
      subst hab
      have hab : a4 = b4 := nI_inj (by omega) (by omega) (hp9.symm.trans hq9)
      subst hab
      have hP : va_P D vwCl (wx cI q sh sp ld nm (upd tx (4 * a1 + a2) (nI (32768 * a4 + a3))) (upd ds (4 * a1 + a2) (xs (i + 5))) (engF sh ct (4 * a1 + a2) a3 a4) (co + (plF (pwR (wdR sh) sp a3 a4 a4)).toInt64) (nI 0) ks ++ (wm cI2 cZ q2 (nI (cd3 (inB (xs (i + 1)) 8 && inB (xs (i + 2)) 4) (txB (xs (i + 3)) (xs (i + 4)) && inB (xs (i + 5)) 10) (!decide (plF (pwR (wdR sh) sp (xs (i + 3)).toNatClampNeg (xs (i + 4)).toNatClampNeg (xs (i + 4)).toNatClampNeg) = -1)))) sh sp ld nm2 nk (upd tx2 (4 * a1 + a2) (nI a3)) (upd mn (4 * a1 + a2) (nI a4)) (upd ds (4 * a1 + a2) (xs (i + 5))) (engR sh ct2 (4 * a1 + a2) a3 a4 a4) (co + (plF (pwR (wdR sh) sp a3 a4 a4)).toInt64) st at0 ha tk) ++ [wo o cJ (vp_updL f 0 ((plF (pwR (wdR sh) sp a3 a4 a4)).toInt64))]) H := hP.sub [0, 1, 2, 3, 4, 5, 6, 7, 8, 10, 11, 12, 13, 14, 15, 16, 17, 18, 19, 20, 9] rfl
      have hD : va_D _ (wx cI q sh sp ld nm (upd tx (4 * a1 + a2) (nI (32768 * a4 + a3))) (upd ds (4 * a1 + a2) (xs (i + 5))) (engF sh ct (4 * a1 + a2) a3 a4) (co + (plF (pwR (wdR sh) sp a3 a4 a4)).toInt64) (nI 0) ks ++ (wm cI2 cZ q2 (nI (cd3 (inB (xs (i + 1)) 8 && inB (xs (i + 2)) 4) (txB (xs (i + 3)) (xs (i + 4)) && inB (xs (i + 5)) 10) (!decide (plF (pwR (wdR sh) sp (xs (i + 3)).toNatClampNeg (xs (i + 4)).toNatClampNeg (xs (i + 4)).toNatClampNeg) = -1)))) sh sp ld nm2 nk (upd tx2 (4 * a1 + a2) (nI a3)) (upd mn (4 * a1 + a2) (nI a4)) (upd ds (4 * a1 + a2) (xs (i + 5))) (engR sh ct2 (4 * a1 + a2) a3 a4 a4) (co + (plF (pwR (wdR sh) sp a3 a4 a4)).toInt64) st at0 ha tk) ++ [wo o cJ (vp_updL f 0 ((plF (pwR (wdR sh) sp a3 a4 a4)).toInt64))]) := hD.sub [0, 1, 2, 3, 4, 5, 6, 7, 8, 10, 11, 12, 13, 14, 15, 16, 17, 18, 19, 20, 9] (by decide) rfl
      refine lv_istore (lv' := [(6, .int (plF (pwR (wdR sh) sp a3 a4 a4))), (5, .int (nI (0))), (4, .int (nI i)), (3, .ref o), (2, .ref (q2 0)), (1, .ref (q 0)), (0, .ref b)]) hx hb dL_law_737 hl (by decide) rfl (fun ls hl => ?_)
      refine lv_aload_n hx hb dL_law_739 rfl (lv_at hl 4 rfl) ?_
      refine k_callVi (As := []) (rest := []) ⟨hx, hb, hml, hown, hts⟩ (c_X1_thrown l D cI2 cZ q2 (nI (cd3 (inB (xs (i + 1)) 8 && inB (xs (i + 2)) 4) (txB (xs (i + 3)) (xs (i + 4)) && inB (xs (i + 5)) 10) (!decide (plF (pwR (wdR sh) sp (xs (i + 3)).toNatClampNeg (xs (i + 4)).toNatClampNeg (xs (i + 4)).toNatClampNeg) = -1)))) sh sp ld nm2 nk (upd tx2 (4 * a1 + a2) (nI a3)) (upd mn (4 * a1 + a2) (nI a4)) (upd ds (4 * a1 + a2) (xs (i + 5))) (engR sh ct2 (4 * a1 + a2) a3 a4 a4) (co + (plF (pwR (wdR sh) sp a3 a4 a4)).toInt64) st at0 ha tk) (cwV 0 hts gL_law_X1_thrown rfl rfl rfl (by decide +kernel) ⟨Nat.le_of_ble_eq_true rfl, Nat.le_of_ble_eq_true rfl⟩) k_B_bl (k_B_of (hP.sub [9, 10, 11, 12, 13, 14, 15, 16, 17, 18, 19] rfl) (hK.sub [1, 2] rfl)) (va_recv hK hP (ci := 1) (q0 := 9) rfl rfl) rfl hl.1 rfl (Nat.le_of_ble_eq_true rfl) dL_law_740 ⟨Nat.le_trans (Nat.le_refl _) hcc, Nat.le_trans (Nat.le_refl _) hss⟩ ?_
      refine lv_as (y := nI (0)) (congrArg nI hc2) ?_
      refine lv_iload hx hb dL_law_743 (lv_at hl 1 rfl) ?_
      refine lv_icmp_eq (tgt := 750) hx hb dL_law_745 (by decide) (fun _ => ?_) (fun h9 => absurd rfl h9)
      refine lv_iload hx hb dL_law_750 (lv_at hl 1 rfl) ?_
      refine n_if_ne (tgt := 767) hx hb dL_law_752 (by decide) (by decide) (fun h9 => absurd h9 (by decide)) (fun _ => ?_)
      refine lv_aload_n hx hb dL_law_755 rfl (lv_at hl 3 rfl) ?_
      refine lv_iconst (v := nI 0) hx hb dL_law_756 (by decide) ?_
      refine n_lald hx hb hK hP 20 3 rfl rfl dL_law_757 ?_
      refine lv_iload hx hb dL_law_758 (lv_at hl 0 rfl) ?_
      have hans : (plF (pwR (wdR sh) sp a3 a4 a4)) = plF (pwR (wdR sh) sp a3 a4 a4) := rfl
      refine lv_i2l (v := (plF (pwR (wdR sh) sp a3 a4 a4)).toInt64) hx hb dL_law_760 rfl ?_
      refine n_lcmpEq hx hb (congrArg Int32.toInt64 hans) dL_law_761 ?_
      refine n_if_eq (tgt := 767) hx hb dL_law_762 (by decide) (by decide) (fun _ => ?_) (fun h9 => absurd h9 (by decide))
      refine lv_goto (tgt := 1298) hx hb dL_law_767 (by decide) ?_
      refine hk H locs ls ?_ (lv_sub hl [2, 3, 4, 5, 6] rfl)
      exact lwI_mk (hR.cut hp6 hp7) hP hD hS
set_option maxHeartbeats 4000000 in
set_option maxRecDepth 100000 in
theorem lo_remove {p : Program} {l : Launch} {e : Env} {s : State} {m : MethodId} {below : List Frame} {meth : Method} {c : Code} {b L : Nat} {xs : Nat → Int32} {Q : State → Prop} {D : va_G} {cI cI2 cZ cJ : ClassId} {q q2 : Nat → Nat} {o : Nat} (hC : lwC p l s m meth c b L xs D cI cI2 cZ cJ) {i : Nat} (hi : i + 7 ≤ L) {cells slots : Nat} (hcc : cells + 8 ≤ room_1.cells) (hss : slots + 48 ≤ room_1.slots) {H : Heap} {locs : List Loc} (hI : lwI D cI q cI2 cZ q2 o cJ s H locs) {ls : Array Slot} (hl : lv_has ls 7 (lwL b q q2 o i)) (hk : ∀ (H : Heap) (locs : List Loc) (ls : Array Slot), lwI D cI q cI2 cZ q2 o cJ s H locs → lv_has ls 7 (lwL b q q2 o i) → W p l e room_1 s m #[Value.ref b] below meth c H locs (cells + 8) (slots + 48) Q (F0 m 1298 ls [])) : W p l e room_1 s m #[Value.ref b] below meth c H locs cells slots Q (F0 m 770 ls []) := by
  obtain ⟨C0, hst, hex, hnc, hK, hL⟩ := hC
  obtain ⟨hx, hb, hr, hml, hown, hts0, hX, hbl, hlocks, hgv⟩ := id C0
  have hts : ∀ w ∈ wsL_law, w.before #[Value.ref b] s = true := fun w h => hts0 w (wsL_law_in w h)
  have hown : s.vm.findClass RL = some m.cls := hown
  have hbA : ¬ (fun a : Nat => s.heap.size ≤ a) b := Nat.not_le.mpr hbl
  obtain ⟨sh, sp, ld, nm, tx, ds, ct, co, kg, ks, th, nm2, nk, tx2, mn, ct2, st, at0, ha, tk, f, T, K, T2, Ld, NT, NK, hR, hP, hD, hS⟩ := hI
  have hl : lv_has ls 7 [(4, .int (nI i)), (3, .ref o), (2, .ref (q2 0)), (1, .ref (q 0)), (0, .ref b)] := hl
  refine lv_aload_n hx hb dL_law_770 rfl (lv_at hl 3 rfl) ?_
  refine lv_aload_n hx hb dL_law_771 rfl (lv_at hl 4 rfl) ?_
  refine lv_iload hx hb dL_law_772 (lv_at hl 0 rfl) ?_
  refine lv_iconst (v := nI 1) hx hb dL_law_774 (by decide) ?_
  refine lv_iadd hx hb dL_law_775 ?_
  refine lv_as (y := nI (i + 1)) (nI_add _ _) ?_
  refine n_sld hx hb hX hbl hbA hS (k := i + 1) (by omega) (by omega) dL_law_776 ?_
  refine lv_aload_n hx hb dL_law_777 rfl (lv_at hl 4 rfl) ?_
  refine lv_iload hx hb dL_law_778 (lv_at hl 0 rfl) ?_
  refine lv_iconst (v := nI 2) hx hb dL_law_780 (by decide) ?_
  refine lv_iadd hx hb dL_law_781 ?_
  refine lv_as (y := nI (i + 2)) (nI_add _ _) ?_
  refine n_sld hx hb hX hbl hbA hS (k := i + 2) (by omega) (by omega) dL_law_782 ?_
  refine lv_aload_n hx hb dL_law_783 rfl (lv_at hl 1 rfl) ?_
  refine k_callTW (wr := (wm cI2 cZ q2 th sh sp ld nm2 nk tx2 mn ds ct2 co st at0 ha tk)) (As := [.ref (q 0), .int (xs (i + 1)), .int (xs (i + 2)), .ref o]) (rest := []) ⟨hx, hb, hml, hown, hts⟩ (c_L_remove l hst D cI q sh sp ld nm tx ds ct co kg ks (xs (i + 1)) (xs (i + 2)) o cJ f (k_D_tt (hD.sub [0, 1, 2, 3, 4, 5, 6, 7, 8, 20] (by decide) rfl))) (vx_cwSW 4 hts gL_law_L_remove rfl rfl rfl (by decide +kernel) ⟨Nat.le_of_ble_eq_true rfl, Nat.le_of_ble_eq_true rfl⟩) (k_en_bl k_B_bl) (fun U hU hW => ⟨k_B_of (hP.sub [0, 1, 2, 3, 4, 5, 6, 7, 8, 20] rfl) (hK.sub [0, 3] rfl) U hU hW, k_ex_mv hex hS (fun a h => Nat.not_le.mpr h) U hU hW, k_nc_of hnc U hW⟩) rfl hl.1 rfl (Nat.le_of_ble_eq_true rfl) dL_law_784 ⟨hcc, hss⟩ hP hD hS [9, 10, 11, 12, 13, 14, 15, 16, 17, 18, 19] [0, 1, 2, 3, 4, 5, 6, 7, 8, 20] rfl rfl (fun u => by cases u <;> rfl) (fun u H locs hu hP hD hS => ?_)
  have hcd : cd1 (inB (xs (i + 1)) 8 && inB (xs (i + 2)) 4) = cd1 (inB (xs (i + 1)) 8 && inB (xs (i + 2)) 4) := rfl
  rcases lw_or0 hu with ⟨rfl, hc⟩ | ⟨u1, rfl, hc, hpx⟩
  · skip
    have hP : va_P D vwCl (wx cI q sh sp ld nm tx ds ct co kg ks ++ wm cI2 cZ q2 th sh sp ld nm2 nk tx2 mn ds ct2 co st at0 ha tk ++ [wo o cJ f]) H := hP.sub [11, 12, 13, 14, 15, 16, 17, 18, 19, 0, 1, 2, 3, 4, 5, 6, 7, 8, 9, 10, 20] rfl
    have hD : va_D _ (wx cI q sh sp ld nm tx ds ct co kg ks ++ wm cI2 cZ q2 th sh sp ld nm2 nk tx2 mn ds ct2 co st at0 ha tk ++ [wo o cJ f]) := hD.sub [11, 12, 13, 14, 15, 16, 17, 18, 19, 0, 1, 2, 3, 4, 5, 6, 7, 8, 9, 10, 20] (by decide) rfl
    refine lv_istore (lv' := [(5, .int (nI (cd1 (inB (xs (i + 1)) 8 && inB (xs (i + 2)) 4)))), (4, .int (nI i)), (3, .ref o), (2, .ref (q2 0)), (1, .ref (q 0)), (0, .ref b)]) hx hb dL_law_787 hl (by decide) rfl (fun ls hl => ?_)
    refine lv_aload_n hx hb dL_law_789 rfl (lv_at hl 3 rfl) ?_
    refine lv_aload_n hx hb dL_law_790 rfl (lv_at hl 5 rfl) ?_
    refine lv_iload hx hb dL_law_791 (lv_at hl 1 rfl) ?_
    refine lv_iconst (v := nI 1) hx hb dL_law_793 (by decide) ?_
    refine lv_iadd hx hb dL_law_794 ?_
    refine lv_as (y := nI (i + 1)) (nI_add _ _) ?_
    refine n_sld hx hb hX hbl hbA hS (k := i + 1) (by omega) (by omega) dL_law_795 ?_
    refine lv_aload_n hx hb dL_law_796 rfl (lv_at hl 5 rfl) ?_
    refine lv_iload hx hb dL_law_797 (lv_at hl 1 rfl) ?_
    refine lv_iconst (v := nI 2) hx hb dL_law_799 (by decide) ?_
    refine lv_iadd hx hb dL_law_800 ?_
    refine lv_as (y := nI (i + 2)) (nI_add _ _) ?_
    refine n_sld hx hb hX hbl hbA hS (k := i + 2) (by omega) (by omega) dL_law_801 ?_
    refine k_callVW (wr := (wx cI q sh sp ld nm tx ds ct co kg ks ++ [wo o cJ f])) (As := [.int (xs (i + 1)), .int (xs (i + 2))]) (rest := []) ⟨hx, hb, hml, hown, hts⟩ (c_X1_remove l D cI2 cZ q2 th sh sp ld nm2 nk tx2 mn ds ct2 co st at0 ha tk (xs (i + 1)) (xs (i + 2)) K hR.hGk (k_D_tt (hD.sub [9, 10, 11, 12, 13, 14, 15, 16, 17, 18, 19] (by decide) rfl))) (cwV 2 hts gL_law_X1_remove rfl rfl rfl (by decide +kernel) ⟨Nat.le_of_ble_eq_true rfl, Nat.le_of_ble_eq_true rfl⟩) k_B_bl (k_B_of (hP.sub [9, 10, 11, 12, 13, 14, 15, 16, 17, 18, 19] rfl) (hK.sub [1, 2] rfl)) (va_recv hK hP (ci := 1) (q0 := 9) rfl rfl) rfl hl.1 rfl (Nat.le_of_ble_eq_true rfl) dL_law_802 ⟨hcc, hss⟩ hP hD hS [0, 1, 2, 3, 4, 5, 6, 7, 8, 20] [9, 10, 11, 12, 13, 14, 15, 16, 17, 18, 19] rfl rfl (fun _ => rfl) (fun v H locs hv hP hD hS _ _ => ?_)
    obtain ⟨v1, vo⟩ := v
    obtain ⟨hv1, hv2⟩ := hv
    rcases lw_or0 hv2 with ⟨hvo, hc2⟩ | ⟨v2, hvo, hc2, hv3⟩
    · skip
      have hv1 : v1 = nI (cd1 (inB (xs (i + 1)) 8 && inB (xs (i + 2)) 4)) := hv1
      have hvo : vo = _ := hvo
      subst hvo
      subst hv1
      have hP : va_P D vwCl (wx cI q sh sp ld nm tx ds ct co kg ks ++ (wm cI2 cZ q2 (nI (cd1 (inB (xs (i + 1)) 8 && inB (xs (i + 2)) 4))) sh sp ld nm2 nk tx2 mn ds ct2 co st at0 ha tk) ++ [wo o cJ f]) H := hP.sub [0, 1, 2, 3, 4, 5, 6, 7, 8, 10, 11, 12, 13, 14, 15, 16, 17, 18, 19, 20, 9] rfl
      have hD : va_D _ (wx cI q sh sp ld nm tx ds ct co kg ks ++ (wm cI2 cZ q2 (nI (cd1 (inB (xs (i + 1)) 8 && inB (xs (i + 2)) 4))) sh sp ld nm2 nk tx2 mn ds ct2 co st at0 ha tk) ++ [wo o cJ f]) := hD.sub [0, 1, 2, 3, 4, 5, 6, 7, 8, 10, 11, 12, 13, 14, 15, 16, 17, 18, 19, 20, 9] (by decide) rfl
      refine lv_istore (lv' := [(6, .int (nI 0)), (5, .int (nI (cd1 (inB (xs (i + 1)) 8 && inB (xs (i + 2)) 4)))), (4, .int (nI i)), (3, .ref o), (2, .ref (q2 0)), (1, .ref (q 0)), (0, .ref b)]) hx hb dL_law_805 hl (by decide) rfl (fun ls hl => ?_)
      refine lv_aload_n hx hb dL_law_807 rfl (lv_at hl 4 rfl) ?_
      refine k_callVi (As := []) (rest := []) ⟨hx, hb, hml, hown, hts⟩ (c_X1_thrown l D cI2 cZ q2 (nI (cd1 (inB (xs (i + 1)) 8 && inB (xs (i + 2)) 4))) sh sp ld nm2 nk tx2 mn ds ct2 co st at0 ha tk) (cwV 0 hts gL_law_X1_thrown rfl rfl rfl (by decide +kernel) ⟨Nat.le_of_ble_eq_true rfl, Nat.le_of_ble_eq_true rfl⟩) k_B_bl (k_B_of (hP.sub [9, 10, 11, 12, 13, 14, 15, 16, 17, 18, 19] rfl) (hK.sub [1, 2] rfl)) (va_recv hK hP (ci := 1) (q0 := 9) rfl rfl) rfl hl.1 rfl (Nat.le_of_ble_eq_true rfl) dL_law_808 ⟨Nat.le_trans (Nat.le_refl _) hcc, Nat.le_trans (Nat.le_refl _) hss⟩ ?_
      refine lv_as (y := nI (cd1 (inB (xs (i + 1)) 8 && inB (xs (i + 2)) 4))) (congrArg nI hcd) ?_
      refine lv_iload hx hb dL_law_811 (lv_at hl 1 rfl) ?_
      refine lv_icmp_eq (tgt := 818) hx hb dL_law_813 (by decide) (fun _ => ?_) (fun h9 => absurd rfl h9)
      refine lv_iload hx hb dL_law_818 (lv_at hl 1 rfl) ?_
      refine n_if_ne (tgt := 842) hx hb dL_law_820 (by decide) (cd1_le _) (fun _ => ?_) (fun h9 => absurd h9 hc)
      refine lv_goto (tgt := 1298) hx hb dL_law_842 (by decide) ?_
      refine hk H locs ls ?_ (lv_sub hl [2, 3, 4, 5, 6] rfl)
      exact lwI_mk (hR) hP hD hS
    · exact absurd (hcd.symm.trans hc2) hc
  · skip
    obtain ⟨a1, a2⟩ := u1
    obtain ⟨hp1, hp2, hp3, hp4⟩ := hpx
    have hp1 : a1 < 8 := hp1
    have hp2 : (xs (i + 1)) = nI a1 := hp2
    have hp3 : a2 < 4 := hp3
    have hp4 : (xs (i + 2)) = nI a2 := hp4
    have hP : va_P D vwCl (wx cI q sh sp ld nm (upd tx (a1 * 4 + a2) (nI 0)) ds ct co (nI 0) ks ++ wm cI2 cZ q2 th sh sp ld nm2 nk tx2 mn ds ct2 co st at0 ha tk ++ [wo o cJ (vp_updL f 0 (bL (!decide (tx (a1 * 4 + a2) = 0))))]) H := hP.sub [11, 12, 13, 14, 15, 16, 17, 18, 19, 0, 1, 2, 3, 4, 5, 6, 7, 8, 9, 10, 20] rfl
    have hD : va_D _ (wx cI q sh sp ld nm (upd tx (a1 * 4 + a2) (nI 0)) ds ct co (nI 0) ks ++ wm cI2 cZ q2 th sh sp ld nm2 nk tx2 mn ds ct2 co st at0 ha tk ++ [wo o cJ (vp_updL f 0 (bL (!decide (tx (a1 * 4 + a2) = 0))))]) := hD.sub [11, 12, 13, 14, 15, 16, 17, 18, 19, 0, 1, 2, 3, 4, 5, 6, 7, 8, 9, 10, 20] (by decide) rfl
    rw [show a1 * 4 + a2 = 4 * a1 + a2 from by omega] at hP hD
    refine lv_istore (lv' := [(5, .int (nI (0))), (4, .int (nI i)), (3, .ref o), (2, .ref (q2 0)), (1, .ref (q 0)), (0, .ref b)]) hx hb dL_law_787 hl (by decide) rfl (fun ls hl => ?_)
    refine lv_aload_n hx hb dL_law_789 rfl (lv_at hl 3 rfl) ?_
    refine lv_aload_n hx hb dL_law_790 rfl (lv_at hl 5 rfl) ?_
    refine lv_iload hx hb dL_law_791 (lv_at hl 1 rfl) ?_
    refine lv_iconst (v := nI 1) hx hb dL_law_793 (by decide) ?_
    refine lv_iadd hx hb dL_law_794 ?_
    refine lv_as (y := nI (i + 1)) (nI_add _ _) ?_
    refine n_sld hx hb hX hbl hbA hS (k := i + 1) (by omega) (by omega) dL_law_795 ?_
    refine lv_aload_n hx hb dL_law_796 rfl (lv_at hl 5 rfl) ?_
    refine lv_iload hx hb dL_law_797 (lv_at hl 1 rfl) ?_
    refine lv_iconst (v := nI 2) hx hb dL_law_799 (by decide) ?_
    refine lv_iadd hx hb dL_law_800 ?_
    refine lv_as (y := nI (i + 2)) (nI_add _ _) ?_
    refine n_sld hx hb hX hbl hbA hS (k := i + 2) (by omega) (by omega) dL_law_801 ?_
    refine k_callVW (wr := (wx cI q sh sp ld nm (upd tx (4 * a1 + a2) (nI 0)) ds ct co (nI 0) ks ++ [wo o cJ (vp_updL f 0 (bL (!decide (tx (4 * a1 + a2) = 0))))])) (As := [.int (xs (i + 1)), .int (xs (i + 2))]) (rest := []) ⟨hx, hb, hml, hown, hts⟩ (c_X1_remove l D cI2 cZ q2 th sh sp ld nm2 nk tx2 mn ds ct2 co st at0 ha tk (xs (i + 1)) (xs (i + 2)) K hR.hGk (k_D_tt (hD.sub [9, 10, 11, 12, 13, 14, 15, 16, 17, 18, 19] (by decide) rfl))) (cwV 2 hts gL_law_X1_remove rfl rfl rfl (by decide +kernel) ⟨Nat.le_of_ble_eq_true rfl, Nat.le_of_ble_eq_true rfl⟩) k_B_bl (k_B_of (hP.sub [9, 10, 11, 12, 13, 14, 15, 16, 17, 18, 19] rfl) (hK.sub [1, 2] rfl)) (va_recv hK hP (ci := 1) (q0 := 9) rfl rfl) rfl hl.1 rfl (Nat.le_of_ble_eq_true rfl) dL_law_802 ⟨hcc, hss⟩ hP hD hS [0, 1, 2, 3, 4, 5, 6, 7, 8, 20] [9, 10, 11, 12, 13, 14, 15, 16, 17, 18, 19] rfl rfl (fun _ => rfl) (fun v H locs hv hP hD hS _ _ => ?_)
    obtain ⟨v1, vo⟩ := v
    obtain ⟨hv1, hv2⟩ := hv
    rcases lw_or0 hv2 with ⟨hvo, hc2⟩ | ⟨v2, hvo, hc2, hv3⟩
    · exact absurd (hcd.trans hc) hc2
    · skip
      have hv1 : v1 = nI (cd1 (inB (xs (i + 1)) 8 && inB (xs (i + 2)) 4)) := hv1
      have hvo : vo = _ := hvo
      subst hvo
      subst hv1
      obtain ⟨b1, b2⟩ := v2
      obtain ⟨hq1, hq2, hq3, hq4⟩ := hv3
      have hq1 : b1 < 8 := hq1
      have hq2 : (xs (i + 1)) = nI b1 := hq2
      have hq3 : b2 < 4 := hq3
      have hq4 : (xs (i + 2)) = nI b2 := hq4
      have hab : a1 = b1 := nI_inj (by omega) (by omega) (hp2.symm.trans hq2)
      subst hab
      have hab : a2 = b2 := nI_inj (by omega) (by omega) (hp4.symm.trans hq4)
      subst hab
      have hP : va_P D vwCl (wx cI q sh sp ld nm (upd tx (4 * a1 + a2) (nI 0)) ds ct co (nI 0) ks ++ (wm cI2 cZ q2 (nI (cd1 (inB (xs (i + 1)) 8 && inB (xs (i + 2)) 4))) sh sp ld nm2 nk tx2 (upd mn (4 * a1 + a2) (nI 0)) ds ct2 co st at0 ha tk) ++ [wo o cJ (vp_updL f 0 (bL (!decide (tx (4 * a1 + a2) = 0))))]) H := hP.sub [0, 1, 2, 3, 4, 5, 6, 7, 8, 10, 11, 12, 13, 14, 15, 16, 17, 18, 19, 20, 9] rfl
      have hD : va_D _ (wx cI q sh sp ld nm (upd tx (4 * a1 + a2) (nI 0)) ds ct co (nI 0) ks ++ (wm cI2 cZ q2 (nI (cd1 (inB (xs (i + 1)) 8 && inB (xs (i + 2)) 4))) sh sp ld nm2 nk tx2 (upd mn (4 * a1 + a2) (nI 0)) ds ct2 co st at0 ha tk) ++ [wo o cJ (vp_updL f 0 (bL (!decide (tx (4 * a1 + a2) = 0))))]) := hD.sub [0, 1, 2, 3, 4, 5, 6, 7, 8, 10, 11, 12, 13, 14, 15, 16, 17, 18, 19, 20, 9] (by decide) rfl
      refine lv_istore (lv' := [(6, .int (bI (!decide (K (4 * a1 + a2) = 0)))), (5, .int (nI (0))), (4, .int (nI i)), (3, .ref o), (2, .ref (q2 0)), (1, .ref (q 0)), (0, .ref b)]) hx hb dL_law_805 hl (by decide) rfl (fun ls hl => ?_)
      refine lv_aload_n hx hb dL_law_807 rfl (lv_at hl 4 rfl) ?_
      refine k_callVi (As := []) (rest := []) ⟨hx, hb, hml, hown, hts⟩ (c_X1_thrown l D cI2 cZ q2 (nI (cd1 (inB (xs (i + 1)) 8 && inB (xs (i + 2)) 4))) sh sp ld nm2 nk tx2 (upd mn (4 * a1 + a2) (nI 0)) ds ct2 co st at0 ha tk) (cwV 0 hts gL_law_X1_thrown rfl rfl rfl (by decide +kernel) ⟨Nat.le_of_ble_eq_true rfl, Nat.le_of_ble_eq_true rfl⟩) k_B_bl (k_B_of (hP.sub [9, 10, 11, 12, 13, 14, 15, 16, 17, 18, 19] rfl) (hK.sub [1, 2] rfl)) (va_recv hK hP (ci := 1) (q0 := 9) rfl rfl) rfl hl.1 rfl (Nat.le_of_ble_eq_true rfl) dL_law_808 ⟨Nat.le_trans (Nat.le_refl _) hcc, Nat.le_trans (Nat.le_refl _) hss⟩ ?_
      refine lv_as (y := nI (0)) (congrArg nI hc2) ?_
      refine lv_iload hx hb dL_law_811 (lv_at hl 1 rfl) ?_
      refine lv_icmp_eq (tgt := 818) hx hb dL_law_813 (by decide) (fun _ => ?_) (fun h9 => absurd rfl h9)
      refine lv_iload hx hb dL_law_818 (lv_at hl 1 rfl) ?_
      refine n_if_ne (tgt := 842) hx hb dL_law_820 (by decide) (by decide) (fun h9 => absurd h9 (by decide)) (fun _ => ?_)
      refine lv_aload_n hx hb dL_law_823 rfl (lv_at hl 3 rfl) ?_
      refine lv_iconst (v := nI 0) hx hb dL_law_824 (by decide) ?_
      refine n_lald hx hb hK hP 20 3 rfl rfl dL_law_825 ?_
      refine lv_iload hx hb dL_law_826 (lv_at hl 0 rfl) ?_
      have hans : (!decide (tx (4 * a1 + a2) = 0)) = (!decide (K (4 * a1 + a2) = 0)) := hR.had (by omega)
      refine b_if_eq (b := (!decide (K (4 * a1 + a2) = 0))) (tgt := 835) hx hb dL_law_828 (by decide) (fun c8 => ?_) (fun c8 => ?_)
      · skip
        refine lv_lconst (v := 0) hx hb dL_law_835 (by decide) ?_
        refine n_lcmpEq (z := 0) hx hb (by rw [hans, c8]; rfl) dL_law_836 ?_
        refine n_if_eq (tgt := 842) hx hb dL_law_837 (by decide) (by decide) (fun _ => ?_) (fun h9 => absurd h9 (by decide))
        refine lv_goto (tgt := 1298) hx hb dL_law_842 (by decide) ?_
        refine hk H locs ls ?_ (lv_sub hl [2, 3, 4, 5, 6] rfl)
        exact lwI_mk (hR.remove) hP hD hS
      · skip
        refine lv_lconst (v := 1) hx hb dL_law_831 (by decide) ?_
        refine lv_goto (tgt := 836) hx hb dL_law_832 (by decide) ?_
        refine n_lcmpEq (z := 1) hx hb (by rw [hans, c8]; rfl) dL_law_836 ?_
        refine n_if_eq (tgt := 842) hx hb dL_law_837 (by decide) (by decide) (fun _ => ?_) (fun h9 => absurd h9 (by decide))
        refine lv_goto (tgt := 1298) hx hb dL_law_842 (by decide) ?_
        refine hk H locs ls ?_ (lv_sub hl [2, 3, 4, 5, 6] rfl)
        exact lwI_mk (hR.remove) hP hD hS
set_option maxHeartbeats 4000000 in
set_option maxRecDepth 100000 in
theorem lo_isOld {p : Program} {l : Launch} {e : Env} {s : State} {m : MethodId} {below : List Frame} {meth : Method} {c : Code} {b L : Nat} {xs : Nat → Int32} {Q : State → Prop} {D : va_G} {cI cI2 cZ cJ : ClassId} {q q2 : Nat → Nat} {o : Nat} (hC : lwC p l s m meth c b L xs D cI cI2 cZ cJ) {i : Nat} (hi : i + 7 ≤ L) {cells slots : Nat} (hcc : cells + 8 ≤ room_1.cells) (hss : slots + 48 ≤ room_1.slots) {H : Heap} {locs : List Loc} (hI : lwI D cI q cI2 cZ q2 o cJ s H locs) {ls : Array Slot} (hl : lv_has ls 7 (lwL b q q2 o i)) (hk : ∀ (H : Heap) (locs : List Loc) (ls : Array Slot), lwI D cI q cI2 cZ q2 o cJ s H locs → lv_has ls 7 (lwL b q q2 o i) → W p l e room_1 s m #[Value.ref b] below meth c H locs (cells + 8) (slots + 48) Q (F0 m 1298 ls [])) : W p l e room_1 s m #[Value.ref b] below meth c H locs cells slots Q (F0 m 845 ls []) := by
  obtain ⟨C0, hst, hex, hnc, hK, hL⟩ := hC
  obtain ⟨hx, hb, hr, hml, hown, hts0, hX, hbl, hlocks, hgv⟩ := id C0
  have hts : ∀ w ∈ wsL_law, w.before #[Value.ref b] s = true := fun w h => hts0 w (wsL_law_in w h)
  have hown : s.vm.findClass RL = some m.cls := hown
  have hbA : ¬ (fun a : Nat => s.heap.size ≤ a) b := Nat.not_le.mpr hbl
  obtain ⟨sh, sp, ld, nm, tx, ds, ct, co, kg, ks, th, nm2, nk, tx2, mn, ct2, st, at0, ha, tk, f, T, K, T2, Ld, NT, NK, hR, hP, hD, hS⟩ := hI
  have hl : lv_has ls 7 [(4, .int (nI i)), (3, .ref o), (2, .ref (q2 0)), (1, .ref (q 0)), (0, .ref b)] := hl
  refine lv_aload_n hx hb dL_law_845 rfl (lv_at hl 3 rfl) ?_
  refine lv_aload_n hx hb dL_law_846 rfl (lv_at hl 4 rfl) ?_
  refine lv_iload hx hb dL_law_847 (lv_at hl 0 rfl) ?_
  refine lv_iconst (v := nI 1) hx hb dL_law_849 (by decide) ?_
  refine lv_iadd hx hb dL_law_850 ?_
  refine lv_as (y := nI (i + 1)) (nI_add _ _) ?_
  refine n_sld hx hb hX hbl hbA hS (k := i + 1) (by omega) (by omega) dL_law_851 ?_
  refine lv_aload_n hx hb dL_law_852 rfl (lv_at hl 4 rfl) ?_
  refine lv_iload hx hb dL_law_853 (lv_at hl 0 rfl) ?_
  refine lv_iconst (v := nI 2) hx hb dL_law_855 (by decide) ?_
  refine lv_iadd hx hb dL_law_856 ?_
  refine lv_as (y := nI (i + 2)) (nI_add _ _) ?_
  refine n_sld hx hb hX hbl hbA hS (k := i + 2) (by omega) (by omega) dL_law_857 ?_
  refine lv_aload_n hx hb dL_law_858 rfl (lv_at hl 1 rfl) ?_
  refine k_callTW (wr := (wm cI2 cZ q2 th sh sp ld nm2 nk tx2 mn ds ct2 co st at0 ha tk)) (As := [.ref (q 0), .int (xs (i + 1)), .int (xs (i + 2)), .ref o]) (rest := []) ⟨hx, hb, hml, hown, hts⟩ (c_L_isOld l hst D cI q sh sp ld nm tx ds ct co kg ks (xs (i + 1)) (xs (i + 2)) T K hR.hG o cJ f (k_D_tt (hD.sub [0, 1, 2, 3, 4, 5, 6, 7, 8, 20] (by decide) rfl))) (vx_cwSW 4 hts gL_law_L_isOld rfl rfl rfl (by decide +kernel) ⟨Nat.le_of_ble_eq_true rfl, Nat.le_of_ble_eq_true rfl⟩) (k_en_bl k_B_bl) (fun U hU hW => ⟨k_B_of (hP.sub [0, 1, 2, 3, 4, 5, 6, 7, 8, 20] rfl) (hK.sub [0, 3] rfl) U hU hW, k_ex_mv hex hS (fun a h => Nat.not_le.mpr h) U hU hW, k_nc_of hnc U hW⟩) rfl hl.1 rfl (Nat.le_of_ble_eq_true rfl) dL_law_859 ⟨hcc, hss⟩ hP hD hS [9, 10, 11, 12, 13, 14, 15, 16, 17, 18, 19] [0, 1, 2, 3, 4, 5, 6, 7, 8, 20] rfl rfl (fun u => by cases u <;> rfl) (fun u H locs hu hP hD hS => ?_)
  have hcd : cd1 (inB (xs (i + 1)) 8 && inB (xs (i + 2)) 4) = cd1 (inB (xs (i + 1)) 8 && inB (xs (i + 2)) 4) := rfl
  rcases lw_or0 hu with ⟨rfl, hc⟩ | ⟨u1, rfl, hc, hpx⟩
  · skip
    have hP : va_P D vwCl (wx cI q sh sp ld nm tx ds ct co kg ks ++ wm cI2 cZ q2 th sh sp ld nm2 nk tx2 mn ds ct2 co st at0 ha tk ++ [wo o cJ f]) H := hP.sub [11, 12, 13, 14, 15, 16, 17, 18, 19, 0, 1, 2, 3, 4, 5, 6, 7, 8, 9, 10, 20] rfl
    have hD : va_D _ (wx cI q sh sp ld nm tx ds ct co kg ks ++ wm cI2 cZ q2 th sh sp ld nm2 nk tx2 mn ds ct2 co st at0 ha tk ++ [wo o cJ f]) := hD.sub [11, 12, 13, 14, 15, 16, 17, 18, 19, 0, 1, 2, 3, 4, 5, 6, 7, 8, 9, 10, 20] (by decide) rfl
    refine lv_istore (lv' := [(5, .int (nI (cd1 (inB (xs (i + 1)) 8 && inB (xs (i + 2)) 4)))), (4, .int (nI i)), (3, .ref o), (2, .ref (q2 0)), (1, .ref (q 0)), (0, .ref b)]) hx hb dL_law_862 hl (by decide) rfl (fun ls hl => ?_)
    refine lv_aload_n hx hb dL_law_864 rfl (lv_at hl 3 rfl) ?_
    refine lv_aload_n hx hb dL_law_865 rfl (lv_at hl 5 rfl) ?_
    refine lv_iload hx hb dL_law_866 (lv_at hl 1 rfl) ?_
    refine lv_iconst (v := nI 1) hx hb dL_law_868 (by decide) ?_
    refine lv_iadd hx hb dL_law_869 ?_
    refine lv_as (y := nI (i + 1)) (nI_add _ _) ?_
    refine n_sld hx hb hX hbl hbA hS (k := i + 1) (by omega) (by omega) dL_law_870 ?_
    refine lv_aload_n hx hb dL_law_871 rfl (lv_at hl 5 rfl) ?_
    refine lv_iload hx hb dL_law_872 (lv_at hl 1 rfl) ?_
    refine lv_iconst (v := nI 2) hx hb dL_law_874 (by decide) ?_
    refine lv_iadd hx hb dL_law_875 ?_
    refine lv_as (y := nI (i + 2)) (nI_add _ _) ?_
    refine n_sld hx hb hX hbl hbA hS (k := i + 2) (by omega) (by omega) dL_law_876 ?_
    refine k_callVW (wr := (wx cI q sh sp ld nm tx ds ct co kg ks ++ [wo o cJ f])) (As := [.int (xs (i + 1)), .int (xs (i + 2))]) (rest := []) ⟨hx, hb, hml, hown, hts⟩ (c_X1_isOld l D cI2 cZ q2 th sh sp ld nm2 nk tx2 mn ds ct2 co st at0 ha tk (xs (i + 1)) (xs (i + 2)) T2 K hR.hG2 (k_D_tt (hD.sub [9, 10, 11, 12, 13, 14, 15, 16, 17, 18, 19] (by decide) rfl))) (cwV 2 hts gL_law_X1_isOld rfl rfl rfl (by decide +kernel) ⟨Nat.le_of_ble_eq_true rfl, Nat.le_of_ble_eq_true rfl⟩) k_B_bl (k_B_of (hP.sub [9, 10, 11, 12, 13, 14, 15, 16, 17, 18, 19] rfl) (hK.sub [1, 2] rfl)) (va_recv hK hP (ci := 1) (q0 := 9) rfl rfl) rfl hl.1 rfl (Nat.le_of_ble_eq_true rfl) dL_law_877 ⟨hcc, hss⟩ hP hD hS [0, 1, 2, 3, 4, 5, 6, 7, 8, 20] [9, 10, 11, 12, 13, 14, 15, 16, 17, 18, 19] rfl rfl (fun _ => rfl) (fun v H locs hv hP hD hS _ _ => ?_)
    obtain ⟨v1, vo⟩ := v
    obtain ⟨hv1, hv2⟩ := hv
    rcases lw_or0 hv2 with ⟨hvo, hc2⟩ | ⟨v2, hvo, hc2, hv3⟩
    · skip
      have hv1 : v1 = nI (cd1 (inB (xs (i + 1)) 8 && inB (xs (i + 2)) 4)) := hv1
      have hvo : vo = _ := hvo
      subst hvo
      subst hv1
      have hP : va_P D vwCl (wx cI q sh sp ld nm tx ds ct co kg ks ++ (wm cI2 cZ q2 (nI (cd1 (inB (xs (i + 1)) 8 && inB (xs (i + 2)) 4))) sh sp ld nm2 nk tx2 mn ds ct2 co st at0 ha tk) ++ [wo o cJ f]) H := hP.sub [0, 1, 2, 3, 4, 5, 6, 7, 8, 10, 11, 12, 13, 14, 15, 16, 17, 18, 19, 20, 9] rfl
      have hD : va_D _ (wx cI q sh sp ld nm tx ds ct co kg ks ++ (wm cI2 cZ q2 (nI (cd1 (inB (xs (i + 1)) 8 && inB (xs (i + 2)) 4))) sh sp ld nm2 nk tx2 mn ds ct2 co st at0 ha tk) ++ [wo o cJ f]) := hD.sub [0, 1, 2, 3, 4, 5, 6, 7, 8, 10, 11, 12, 13, 14, 15, 16, 17, 18, 19, 20, 9] (by decide) rfl
      refine lv_istore (lv' := [(6, .int (nI 0)), (5, .int (nI (cd1 (inB (xs (i + 1)) 8 && inB (xs (i + 2)) 4)))), (4, .int (nI i)), (3, .ref o), (2, .ref (q2 0)), (1, .ref (q 0)), (0, .ref b)]) hx hb dL_law_880 hl (by decide) rfl (fun ls hl => ?_)
      refine lv_aload_n hx hb dL_law_882 rfl (lv_at hl 4 rfl) ?_
      refine k_callVi (As := []) (rest := []) ⟨hx, hb, hml, hown, hts⟩ (c_X1_thrown l D cI2 cZ q2 (nI (cd1 (inB (xs (i + 1)) 8 && inB (xs (i + 2)) 4))) sh sp ld nm2 nk tx2 mn ds ct2 co st at0 ha tk) (cwV 0 hts gL_law_X1_thrown rfl rfl rfl (by decide +kernel) ⟨Nat.le_of_ble_eq_true rfl, Nat.le_of_ble_eq_true rfl⟩) k_B_bl (k_B_of (hP.sub [9, 10, 11, 12, 13, 14, 15, 16, 17, 18, 19] rfl) (hK.sub [1, 2] rfl)) (va_recv hK hP (ci := 1) (q0 := 9) rfl rfl) rfl hl.1 rfl (Nat.le_of_ble_eq_true rfl) dL_law_883 ⟨Nat.le_trans (Nat.le_refl _) hcc, Nat.le_trans (Nat.le_refl _) hss⟩ ?_
      refine lv_as (y := nI (cd1 (inB (xs (i + 1)) 8 && inB (xs (i + 2)) 4))) (congrArg nI hcd) ?_
      refine lv_iload hx hb dL_law_886 (lv_at hl 1 rfl) ?_
      refine lv_icmp_eq (tgt := 893) hx hb dL_law_888 (by decide) (fun _ => ?_) (fun h9 => absurd rfl h9)
      refine lv_iload hx hb dL_law_893 (lv_at hl 1 rfl) ?_
      refine n_if_ne (tgt := 917) hx hb dL_law_895 (by decide) (cd1_le _) (fun _ => ?_) (fun h9 => absurd h9 hc)
      refine lv_goto (tgt := 1298) hx hb dL_law_917 (by decide) ?_
      refine hk H locs ls ?_ (lv_sub hl [2, 3, 4, 5, 6] rfl)
      exact lwI_mk (hR) hP hD hS
    · exact absurd (hcd.symm.trans hc2) hc
  · skip
    obtain ⟨a1, a2⟩ := u1
    obtain ⟨hp1, hp2, hp3, hp4⟩ := hpx
    have hp1 : a1 < 8 := hp1
    have hp2 : (xs (i + 1)) = nI a1 := hp2
    have hp3 : a2 < 4 := hp3
    have hp4 : (xs (i + 2)) = nI a2 := hp4
    have hP : va_P D vwCl (wx cI q sh sp ld nm tx ds ct co kg ks ++ wm cI2 cZ q2 th sh sp ld nm2 nk tx2 mn ds ct2 co st at0 ha tk ++ [wo o cJ (vp_updL f 0 (bL (anyB (oldC sh ct (a1 * 4 + a2) (T (a1 * 4 + a2))) (K (a1 * 4 + a2)))))]) H := hP.sub [11, 12, 13, 14, 15, 16, 17, 18, 19, 0, 1, 2, 3, 4, 5, 6, 7, 8, 9, 10, 20] rfl
    have hD : va_D _ (wx cI q sh sp ld nm tx ds ct co kg ks ++ wm cI2 cZ q2 th sh sp ld nm2 nk tx2 mn ds ct2 co st at0 ha tk ++ [wo o cJ (vp_updL f 0 (bL (anyB (oldC sh ct (a1 * 4 + a2) (T (a1 * 4 + a2))) (K (a1 * 4 + a2)))))]) := hD.sub [11, 12, 13, 14, 15, 16, 17, 18, 19, 0, 1, 2, 3, 4, 5, 6, 7, 8, 9, 10, 20] (by decide) rfl
    rw [show a1 * 4 + a2 = 4 * a1 + a2 from by omega] at hP hD
    refine lv_istore (lv' := [(5, .int (nI (0))), (4, .int (nI i)), (3, .ref o), (2, .ref (q2 0)), (1, .ref (q 0)), (0, .ref b)]) hx hb dL_law_862 hl (by decide) rfl (fun ls hl => ?_)
    refine lv_aload_n hx hb dL_law_864 rfl (lv_at hl 3 rfl) ?_
    refine lv_aload_n hx hb dL_law_865 rfl (lv_at hl 5 rfl) ?_
    refine lv_iload hx hb dL_law_866 (lv_at hl 1 rfl) ?_
    refine lv_iconst (v := nI 1) hx hb dL_law_868 (by decide) ?_
    refine lv_iadd hx hb dL_law_869 ?_
    refine lv_as (y := nI (i + 1)) (nI_add _ _) ?_
    refine n_sld hx hb hX hbl hbA hS (k := i + 1) (by omega) (by omega) dL_law_870 ?_
    refine lv_aload_n hx hb dL_law_871 rfl (lv_at hl 5 rfl) ?_
    refine lv_iload hx hb dL_law_872 (lv_at hl 1 rfl) ?_
    refine lv_iconst (v := nI 2) hx hb dL_law_874 (by decide) ?_
    refine lv_iadd hx hb dL_law_875 ?_
    refine lv_as (y := nI (i + 2)) (nI_add _ _) ?_
    refine n_sld hx hb hX hbl hbA hS (k := i + 2) (by omega) (by omega) dL_law_876 ?_
    refine k_callVW (wr := (wx cI q sh sp ld nm tx ds ct co kg ks ++ [wo o cJ (vp_updL f 0 (bL (anyB (oldC sh ct (4 * a1 + a2) (T (4 * a1 + a2))) (K (4 * a1 + a2)))))])) (As := [.int (xs (i + 1)), .int (xs (i + 2))]) (rest := []) ⟨hx, hb, hml, hown, hts⟩ (c_X1_isOld l D cI2 cZ q2 th sh sp ld nm2 nk tx2 mn ds ct2 co st at0 ha tk (xs (i + 1)) (xs (i + 2)) T2 K hR.hG2 (k_D_tt (hD.sub [9, 10, 11, 12, 13, 14, 15, 16, 17, 18, 19] (by decide) rfl))) (cwV 2 hts gL_law_X1_isOld rfl rfl rfl (by decide +kernel) ⟨Nat.le_of_ble_eq_true rfl, Nat.le_of_ble_eq_true rfl⟩) k_B_bl (k_B_of (hP.sub [9, 10, 11, 12, 13, 14, 15, 16, 17, 18, 19] rfl) (hK.sub [1, 2] rfl)) (va_recv hK hP (ci := 1) (q0 := 9) rfl rfl) rfl hl.1 rfl (Nat.le_of_ble_eq_true rfl) dL_law_877 ⟨hcc, hss⟩ hP hD hS [0, 1, 2, 3, 4, 5, 6, 7, 8, 20] [9, 10, 11, 12, 13, 14, 15, 16, 17, 18, 19] rfl rfl (fun _ => rfl) (fun v H locs hv hP hD hS _ _ => ?_)
    obtain ⟨v1, vo⟩ := v
    obtain ⟨hv1, hv2⟩ := hv
    rcases lw_or0 hv2 with ⟨hvo, hc2⟩ | ⟨v2, hvo, hc2, hv3⟩
    · exact absurd (hcd.trans hc) hc2
    · skip
      have hv1 : v1 = nI (cd1 (inB (xs (i + 1)) 8 && inB (xs (i + 2)) 4)) := hv1
      have hvo : vo = _ := hvo
      subst hvo
      subst hv1
      obtain ⟨b1, b2⟩ := v2
      obtain ⟨hq1, hq2, hq3, hq4⟩ := hv3
      have hq1 : b1 < 8 := hq1
      have hq2 : (xs (i + 1)) = nI b1 := hq2
      have hq3 : b2 < 4 := hq3
      have hq4 : (xs (i + 2)) = nI b2 := hq4
      have hab : a1 = b1 := nI_inj (by omega) (by omega) (hp2.symm.trans hq2)
      subst hab
      have hab : a2 = b2 := nI_inj (by omega) (by omega) (hp4.symm.trans hq4)
      subst hab
      have hP : va_P D vwCl (wx cI q sh sp ld nm tx ds ct co kg ks ++ (wm cI2 cZ q2 (nI (cd1 (inB (xs (i + 1)) 8 && inB (xs (i + 2)) 4))) sh sp ld nm2 nk tx2 mn ds ct2 co st at0 ha tk) ++ [wo o cJ (vp_updL f 0 (bL (anyB (oldC sh ct (4 * a1 + a2) (T (4 * a1 + a2))) (K (4 * a1 + a2)))))]) H := hP.sub [0, 1, 2, 3, 4, 5, 6, 7, 8, 10, 11, 12, 13, 14, 15, 16, 17, 18, 19, 20, 9] rfl
      have hD : va_D _ (wx cI q sh sp ld nm tx ds ct co kg ks ++ (wm cI2 cZ q2 (nI (cd1 (inB (xs (i + 1)) 8 && inB (xs (i + 2)) 4))) sh sp ld nm2 nk tx2 mn ds ct2 co st at0 ha tk) ++ [wo o cJ (vp_updL f 0 (bL (anyB (oldC sh ct (4 * a1 + a2) (T (4 * a1 + a2))) (K (4 * a1 + a2)))))]) := hD.sub [0, 1, 2, 3, 4, 5, 6, 7, 8, 10, 11, 12, 13, 14, 15, 16, 17, 18, 19, 20, 9] (by decide) rfl
      refine lv_istore (lv' := [(6, .int (bI (anyB (oldR sh ct2 (4 * a1 + a2) (T2 (4 * a1 + a2)) (K (4 * a1 + a2))) (K (4 * a1 + a2))))), (5, .int (nI (0))), (4, .int (nI i)), (3, .ref o), (2, .ref (q2 0)), (1, .ref (q 0)), (0, .ref b)]) hx hb dL_law_880 hl (by decide) rfl (fun ls hl => ?_)
      refine lv_aload_n hx hb dL_law_882 rfl (lv_at hl 4 rfl) ?_
      refine k_callVi (As := []) (rest := []) ⟨hx, hb, hml, hown, hts⟩ (c_X1_thrown l D cI2 cZ q2 (nI (cd1 (inB (xs (i + 1)) 8 && inB (xs (i + 2)) 4))) sh sp ld nm2 nk tx2 mn ds ct2 co st at0 ha tk) (cwV 0 hts gL_law_X1_thrown rfl rfl rfl (by decide +kernel) ⟨Nat.le_of_ble_eq_true rfl, Nat.le_of_ble_eq_true rfl⟩) k_B_bl (k_B_of (hP.sub [9, 10, 11, 12, 13, 14, 15, 16, 17, 18, 19] rfl) (hK.sub [1, 2] rfl)) (va_recv hK hP (ci := 1) (q0 := 9) rfl rfl) rfl hl.1 rfl (Nat.le_of_ble_eq_true rfl) dL_law_883 ⟨Nat.le_trans (Nat.le_refl _) hcc, Nat.le_trans (Nat.le_refl _) hss⟩ ?_
      refine lv_as (y := nI (0)) (congrArg nI hc2) ?_
      refine lv_iload hx hb dL_law_886 (lv_at hl 1 rfl) ?_
      refine lv_icmp_eq (tgt := 893) hx hb dL_law_888 (by decide) (fun _ => ?_) (fun h9 => absurd rfl h9)
      refine lv_iload hx hb dL_law_893 (lv_at hl 1 rfl) ?_
      refine n_if_ne (tgt := 917) hx hb dL_law_895 (by decide) (by decide) (fun h9 => absurd h9 (by decide)) (fun _ => ?_)
      refine lv_aload_n hx hb dL_law_898 rfl (lv_at hl 3 rfl) ?_
      refine lv_iconst (v := nI 0) hx hb dL_law_899 (by decide) ?_
      refine n_lald hx hb hK hP 20 3 rfl rfl dL_law_900 ?_
      refine lv_iload hx hb dL_law_901 (lv_at hl 0 rfl) ?_
      have hans : (anyB (oldC sh ct (4 * a1 + a2) (T (4 * a1 + a2))) (K (4 * a1 + a2))) = (anyB (oldR sh ct2 (4 * a1 + a2) (T2 (4 * a1 + a2)) (K (4 * a1 + a2))) (K (4 * a1 + a2))) := hR.old (by omega)
      refine b_if_eq (b := (anyB (oldR sh ct2 (4 * a1 + a2) (T2 (4 * a1 + a2)) (K (4 * a1 + a2))) (K (4 * a1 + a2)))) (tgt := 910) hx hb dL_law_903 (by decide) (fun c8 => ?_) (fun c8 => ?_)
      · skip
        refine lv_lconst (v := 0) hx hb dL_law_910 (by decide) ?_
        refine n_lcmpEq (z := 0) hx hb (by rw [hans, c8]; rfl) dL_law_911 ?_
        refine n_if_eq (tgt := 917) hx hb dL_law_912 (by decide) (by decide) (fun _ => ?_) (fun h9 => absurd h9 (by decide))
        refine lv_goto (tgt := 1298) hx hb dL_law_917 (by decide) ?_
        refine hk H locs ls ?_ (lv_sub hl [2, 3, 4, 5, 6] rfl)
        exact lwI_mk (hR) hP hD hS
      · skip
        refine lv_lconst (v := 1) hx hb dL_law_906 (by decide) ?_
        refine lv_goto (tgt := 911) hx hb dL_law_907 (by decide) ?_
        refine n_lcmpEq (z := 1) hx hb (by rw [hans, c8]; rfl) dL_law_911 ?_
        refine n_if_eq (tgt := 917) hx hb dL_law_912 (by decide) (by decide) (fun _ => ?_) (fun h9 => absurd h9 (by decide))
        refine lv_goto (tgt := 1298) hx hb dL_law_917 (by decide) ?_
        refine hk H locs ls ?_ (lv_sub hl [2, 3, 4, 5, 6] rfl)
        exact lwI_mk (hR) hP hD hS
