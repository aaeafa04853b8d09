set_option maxHeartbeats 4000000 in
set_option maxRecDepth 100000 in
theorem lo_cost {p : Program} {l : Launch} {e : Env} {s : State} {m : MethodId} {below : List Frame} {meth : Method} {c : Code} {b L : Nat} {xs : Nat → Int32} {Q : State → Prop} {D : va_G} {cI cI2 cZ cJ : ClassId} {q q2 : Nat → Nat} {o : Nat} (hC : lwC p l s m meth c b L xs D cI cI2 cZ cJ) {i : Nat} (hi : i + 7 ≤ L) {cells slots : Nat} (hcc : cells + 8 ≤ room_1.cells) (hss : slots + 48 ≤ room_1.slots) {H : Heap} {locs : List Loc} (hI : lwI D cI q cI2 cZ q2 o cJ s H locs) {ls : Array Slot} (hl : lv_has ls 7 (lwL b q q2 o i)) (hk : ∀ (H : Heap) (locs : List Loc) (ls : Array Slot), lwI D cI q cI2 cZ q2 o cJ s H locs → lv_has ls 7 (lwL b q q2 o i) → W p l e room_1 s m #[Value.ref b] below meth c H locs (cells + 8) (slots + 48) Q (F0 m 1298 ls [])) : W p l e room_1 s m #[Value.ref b] below meth c H locs cells slots Q (F0 m 1032 ls []) := by
  obtain ⟨C0, hst, hex, hnc, hK, hL⟩ := hC
  obtain ⟨hx, hb, hr, hml, hown, hts0, hX, hbl, hlocks, hgv⟩ := id C0
  have hts : ∀ w ∈ wsL_law, w.before #[Value.ref b] s = true := fun w h => hts0 w (wsL_law_in w h)
  have hown : s.vm.findClass RL = some m.cls := hown
  have hbA : ¬ (fun a : Nat => s.heap.size ≤ a) b := Nat.not_le.mpr hbl
  obtain ⟨sh, sp, ld, nm, tx, ds, ct, co, kg, ks, th, nm2, nk, tx2, mn, ct2, st, at0, ha, tk, f, T, K, T2, Ld, NT, NK, hR, hP, hD, hS⟩ := hI
  have hl : lv_has ls 7 [(4, .int (nI i)), (3, .ref o), (2, .ref (q2 0)), (1, .ref (q 0)), (0, .ref b)] := hl
  refine lv_aload_n hx hb dL_law_1032 rfl (lv_at hl 3 rfl) ?_
  refine k_callV (v := some (.long co)) (As := []) (rest := []) ⟨hx, hb, hml, hown, hts⟩ (c_X0_cost l D cI q sh sp ld nm tx ds ct co kg ks) (cwV 0 hts gL_law_X0_cost rfl rfl rfl (by decide +kernel) ⟨Nat.le_of_ble_eq_true rfl, Nat.le_of_ble_eq_true rfl⟩) k_B_bl (k_B_of (hP.sub [0, 1, 2, 3, 4, 5, 6, 7, 8] rfl) (hK.sub [0] rfl)) (va_recv hK hP (ci := 0) (q0 := 0) rfl rfl) rfl hl.1 rfl (Nat.le_of_ble_eq_true rfl) dL_law_1033 ⟨Nat.le_trans (Nat.le_add_right _ _) hcc, Nat.le_trans (Nat.le_add_right _ _) hss⟩ ?_
  refine lv_aload_n hx hb dL_law_1036 rfl (lv_at hl 2 rfl) ?_
  refine k_callVW (wr := (wx cI q sh sp ld nm tx ds ct co kg ks ++ [wo o cJ f])) (As := []) (rest := [.long co]) ⟨hx, hb, hml, hown, hts⟩ (c_X1_cost l D cI2 cZ q2 th sh sp ld nm2 nk tx2 mn ds ct2 co st at0 ha tk (k_D_tt (hD.sub [9, 10, 11, 12, 13, 14, 15, 16, 17, 18, 19] (by decide) rfl))) (cwV 0 hts gL_law_X1_cost rfl rfl rfl (by decide +kernel) ⟨Nat.le_of_ble_eq_true rfl, Nat.le_of_ble_eq_true rfl⟩) k_B_bl (k_B_of (hP.sub [9, 10, 11, 12, 13, 14, 15, 16, 17, 18, 19] rfl) (hK.sub [1, 2] rfl)) (va_recv hK hP (ci := 1) (q0 := 9) rfl rfl) rfl hl.1 rfl (Nat.le_of_ble_eq_true rfl) dL_law_1037 ⟨Nat.le_trans (Nat.le_add_right _ _) hcc, Nat.le_trans (Nat.le_add_right _ _) hss⟩ hP hD hS [0, 1, 2, 3, 4, 5, 6, 7, 8, 20] [9, 10, 11, 12, 13, 14, 15, 16, 17, 18, 19] rfl rfl (fun _ => rfl) (fun v H locs hv hP hD hS _ _ => ?_)
  refine n_lcmpEq (x := co) (z := co) hx hb rfl dL_law_1040 ?_
  refine n_if_eq (tgt := 1298) hx hb dL_law_1041 (by decide) (by decide) (fun _ => ?_) (fun h9 => absurd h9 (by decide))
  have hP : va_P D vwCl (wx cI q sh sp ld nm tx ds ct co kg ks ++ (wm cI2 cZ q2 (nI 0) sh sp ld nm2 nk tx2 mn ds ct2 co st at0 ha tk) ++ [wo o cJ f]) H := hP.sub [0, 1, 2, 3, 4, 5, 6, 7, 8, 10, 11, 12, 13, 14, 15, 16, 17, 18, 19, 20, 9] rfl
  have hD : va_D _ (wx cI q sh sp ld nm tx ds ct co kg ks ++ (wm cI2 cZ q2 (nI 0) sh sp ld nm2 nk tx2 mn ds ct2 co st at0 ha tk) ++ [wo o cJ f]) := hD.sub [0, 1, 2, 3, 4, 5, 6, 7, 8, 10, 11, 12, 13, 14, 15, 16, 17, 18, 19, 20, 9] (by decide) rfl
  refine W.widen (k := cells + 8) (n := slots + 48) (Nat.le_add_right _ _) (Nat.le_add_right _ _) ?_
  exact hk H locs ls ⟨_, _, _, _, _, _, _, _, _, _, _, _, _, _, _, _, _, _, _, _, _, _, _, _, _, _, _, hR, hP, hD, hS⟩ hl
theorem loop_le {L i : Nat} (hL : L ≤ 3584) (hi : i ≤ 3584) (h : ¬ nI i > nI L - nI 7) : i + 7 ≤ L := by
  by_cases h7 : 7 ≤ L
  · rw [pk_sub h7] at h
    have h2 : ¬ L - 7 < i := fun q => h ((nI_ltI (by omega) (by omega)).mpr q)
    omega
  · have hn : ∀ L, L < 7 → (nI L - nI 7).toInt < 0 := by decide
    refine absurd ?_ h
    show nI L - nI 7 < nI i
    rw [fa_lt, nI_toInt (by omega)]
    have := hn L (by omega)
    omega
theorem and15 (x : Int32) : ∃ r, r < 16 ∧ x &&& nI 15 = nI r := by
  obtain ⟨n, hn, rfl⟩ := wb_of32 x
  exact ⟨n % 16, by omega, fa_mask n 4⟩
set_option maxHeartbeats 4000000 in
set_option maxRecDepth 100000 in
theorem law_loop {p : Program} {l : Launch} {e : Env} {s : State} {m : MethodId} {below : List Frame} {meth : Method} {c : Code} {b L : Nat} {xs : Nat → Int32} {D : va_G} {cI cI2 cZ cJ : ClassId} {q q2 : Nat → Nat} {o : Nat} (hC : lwC p l s m meth c b L xs D cI cI2 cZ cJ) :
    ∀ (n i cells slots : Nat) (H : Heap) (locs : List Loc) (ls : Array Slot), L ≤ i + 7 * n + 6 → i ≤ L → cells + 8 * n ≤ 622909 → slots + 48 * n ≤ 7227376 → lwI D cI q cI2 cZ q2 o cJ s H locs → lv_has ls 7 (lwL b q q2 o i) → W p l e room_1 s m #[Value.ref b] below meth c H locs cells slots (lw_Z below #[Value.ref b] s) (F0 m 23 ls []) := by
  intro n
  induction n with
  | zero =>
    intro i cells slots H locs ls hn hi hcc hss hI hl
    obtain ⟨C0, hst, hex, hnc, hK, hL⟩ := id hC
    obtain ⟨hx, hb, hr, hml, hown, hts0, hX, hbl, hlocks, hgv⟩ := id C0
    have hbA : ¬ (fun a : Nat => s.heap.size ≤ a) b := Nat.not_le.mpr hbl
    have hS : va_S (fun a : Nat => s.heap.size ≤ a) s.heap H locs := by
      obtain ⟨_, _, _, _, _, _, _, _, _, _, _, _, _, _, _, _, _, _, _, _, _, _, _, _, _, _, _, -, -, -, hS⟩ := hI
      exact hS
    have hl0 : lv_has ls 7 [(4, .int (nI i)), (3, .ref o), (2, .ref (q2 0)), (1, .ref (q 0)), (0, .ref b)] := hl
    refine lv_iload hx hb dL_law_23 (lv_at hl0 0 rfl) ?_
    refine lv_aload_n hx hb dL_law_25 rfl (lv_at hl0 4 rfl) ?_
    refine va_slen hx hb hX hbl hbA hS dL_law_26 ?_
    refine lv_bipush (v := nI 7) hx hb dL_law_27 (by decide) ?_
    refine lv_isub hx hb dL_law_29 ?_
    refine lv_icmp_gt (tgt := 1304) hx hb dL_law_30 (by decide) (fun _ => ?_) (fun h9 => absurd (loop_le hL (by omega) h9) (by omega))
    refine lv_iconst (v := 1) hx hb dL_law_1304 (by decide) ?_
    refine va_forget (fun z hz => hS.2.2 z hz) ?_
    refine W.widen (k := 622909) (n := 7227376) (by omega) (by omega) ?_
    exact lw_ret hx hb hr hlocks dL_law_1305
  | succ n ih =>
    intro i cells slots H locs ls hn hi hcc hss hI hl
    obtain ⟨C0, hst, hex, hnc, hK, hL⟩ := id hC
    obtain ⟨hx, hb, hr, hml, hown, hts0, hX, hbl, hlocks, hgv⟩ := id C0
    have hbA : ¬ (fun a : Nat => s.heap.size ≤ a) b := Nat.not_le.mpr hbl
    have hS : va_S (fun a : Nat => s.heap.size ≤ a) s.heap H locs := by
      obtain ⟨_, _, _, _, _, _, _, _, _, _, _, _, _, _, _, _, _, _, _, _, _, _, _, _, _, _, _, -, -, -, hS⟩ := hI
      exact hS
    have hl0 : lv_has ls 7 [(4, .int (nI i)), (3, .ref o), (2, .ref (q2 0)), (1, .ref (q 0)), (0, .ref b)] := hl
    refine lv_iload hx hb dL_law_23 (lv_at hl0 0 rfl) ?_
    refine lv_aload_n hx hb dL_law_25 rfl (lv_at hl0 4 rfl) ?_
    refine va_slen hx hb hX hbl hbA hS dL_law_26 ?_
    refine lv_bipush (v := nI 7) hx hb dL_law_27 (by decide) ?_
    refine lv_isub hx hb dL_law_29 ?_
    refine lv_icmp_gt (tgt := 1304) hx hb dL_law_30 (by decide) (fun _ => ?_) (fun h9 => ?_)
    · refine lv_iconst (v := 1) hx hb dL_law_1304 (by decide) ?_
      refine va_forget (fun z hz => hS.2.2 z hz) ?_
      refine W.widen (k := 622909) (n := 7227376) (by omega) (by omega) ?_
      exact lw_ret hx hb hr hlocks dL_law_1305
    · have hi7 : i + 7 ≤ L := loop_le hL (by omega) h9
      have hcc8 : cells + 8 ≤ room_1.cells := show cells + 8 ≤ 622909 by omega
      have hss8 : slots + 48 ≤ room_1.slots := show slots + 48 ≤ 7227376 by omega
      have hk : ∀ (H : Heap) (locs : List Loc) (ls : Array Slot), lwI D cI q cI2 cZ q2 o cJ s H locs → lv_has ls 7 (lwL b q q2 o i) → W p l e room_1 s m #[Value.ref b] below meth c H locs (cells + 8) (slots + 48) (lw_Z below #[Value.ref b] s) (F0 m 1298 ls []) := by
        intro H locs ls hI hl
        have hl0 : lv_has ls 7 [(4, .int (nI i)), (3, .ref o), (2, .ref (q2 0)), (1, .ref (q 0)), (0, .ref b)] := hl
        refine lv_iinc (v := nI (i + 7)) (lv' := [(4, .int (nI (i + 7))), (3, .ref o), (2, .ref (q2 0)), (1, .ref (q 0)), (0, .ref b)]) hx hb dL_law_1298 hl0 (k := 0) rfl (nI_add _ 7) (by decide) rfl (fun ls hl => ?_)
        refine lv_goto (tgt := 23) hx hb dL_law_1301 (by decide) ?_
        exact ih (i + 7) (cells + 8) (slots + 48) H locs ls (by omega) hi7 (by omega) (by omega) hI hl
      refine lv_aload_n hx hb dL_law_33 rfl (lv_at hl0 4 rfl) ?_
      refine lv_iload hx hb dL_law_34 (lv_at hl0 0 rfl) ?_
      refine n_sld hx hb hX hbl hbA hS (k := i) (by omega) (by omega) dL_law_36 ?_
      refine lv_bipush (v := nI 15) hx hb dL_law_37 (by decide) ?_
      refine lv_iand hx hb dL_law_39 ?_
      obtain ⟨r, hr16, hre⟩ := and15 (xs i)
      refine lv_as (y := nI r) hre ?_
      rcases (show r = 0 ∨ r = 1 ∨ r = 2 ∨ r = 3 ∨ r = 4 ∨ r = 5 ∨ r = 6 ∨ r = 7 ∨ r = 8 ∨ r = 9 ∨ r = 10 ∨ r = 11 ∨ r = 12 ∨ r = 13 ∨ r = 14 ∨ r = 15 by omega) with rfl | rfl | rfl | rfl | rfl | rfl | rfl | rfl | rfl | rfl | rfl | rfl | rfl | rfl | rfl | rfl
      · exact lv_tableIn (off := 80) (tgt := 120) hx hb dL_law_40 (by decide) (by decide) (by decide) (by decide) (lo_stroke hC hi7 hcc8 hss8 hI hl hk)
      · exact lv_tableIn (off := 214) (tgt := 254) hx hb dL_law_40 (by decide) (by decide) (by decide) (by decide) (lo_difference hC hi7 hcc8 hss8 hI hl hk)
      · exact lv_tableIn (off := 282) (tgt := 322) hx hb dL_law_40 (by decide) (by decide) (by decide) (by decide) (lo_width hC hi7 hcc8 hss8 hI hl hk)
      · exact lv_tableIn (off := 338) (tgt := 378) hx hb dL_law_40 (by decide) (by decide) (by decide) (by decide) (lo_space hC hi7 hcc8 hss8 hI hl hk)
      · exact lv_tableIn (off := 418) (tgt := 458) hx hb dL_law_40 (by decide) (by decide) (by decide) (by decide) (lo_lead hC hi7 hcc8 hss8 hI hl hk)
      · exact lv_tableIn (off := 498) (tgt := 538) hx hb dL_law_40 (by decide) (by decide) (by decide) (by decide) (lo_name hC hi7 hcc8 hss8 hI hl hk)
      · exact lv_tableIn (off := 558) (tgt := 598) hx hb dL_law_40 (by decide) (by decide) (by decide) (by decide) (lo_textWidth hC hi7 hcc8 hss8 hI hl hk)
      · exact lv_tableIn (off := 626) (tgt := 666) hx hb dL_law_40 (by decide) (by decide) (by decide) (by decide) (lo_cut hC hi7 hcc8 hss8 hI hl hk)
      · exact lv_tableIn (off := 730) (tgt := 770) hx hb dL_law_40 (by decide) (by decide) (by decide) (by decide) (lo_remove hC hi7 hcc8 hss8 hI hl hk)
      · exact lv_tableIn (off := 805) (tgt := 845) hx hb dL_law_40 (by decide) (by decide) (by decide) (by decide) (lo_isOld hC hi7 hcc8 hss8 hI hl hk)
      · exact lv_tableIn (off := 880) (tgt := 920) hx hb dL_law_40 (by decide) (by decide) (by decide) (by decide) (lo_remake hC hi7 hcc8 hss8 hI hl hk)
      · exact lv_tableIn (off := 924) (tgt := 964) hx hb dL_law_40 (by decide) (by decide) (by decide) (by decide) (lo_read hC hi7 hcc8 hss8 hI hl hk)
      · exact lv_tableIn (off := 992) (tgt := 1032) hx hb dL_law_40 (by decide) (by decide) (by decide) (by decide) (lo_cost hC hi7 hcc8 hss8 hI hl hk)
      · exact lv_tableIn (off := 1006) (tgt := 1046) hx hb dL_law_40 (by decide) (by decide) (by decide) (by decide) (lo_walk hC hi7 hcc8 hss8 hI hl hk)
      · exact lv_tableIn (off := 1086) (tgt := 1126) hx hb dL_law_40 (by decide) (by decide) (by decide) (by decide) (lo_walkBySteps hC hi7 hcc8 hss8 hI hl hk)
      · exact lv_tableIn (off := 1166) (tgt := 1206) hx hb dL_law_40 (by decide) (by decide) (by decide) (by decide) (lo_placeBehind hC hi7 hcc8 hss8 hI hl hk)
