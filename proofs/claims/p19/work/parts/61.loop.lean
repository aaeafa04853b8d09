set_option maxHeartbeats 4000000 in
set_option maxRecDepth 100000 in
theorem law_loop {p : Program} {l : Launch} {e : Env} {s : State} {m : MethodId} {below : List Frame} {meth : Method} {c : Code} {b L : Nat} {xs : Nat → Int32} {D : va_G} {cI : ClassId} {q : Nat → Nat} {a1 a2 : Nat} {co : Int64} {H : Heap} {locs : List Loc} {ls : Array Slot} (hC : lqC p s m meth c b L xs D cI) (hI : lqI D cI q a1 a2 co s H locs) (hl : lv_has ls 24 (lqL b q a1 a2 co 0)) : W p l e room_1 s m #[Value.ref b] below meth c H locs 96 1076 (lw_Z below #[Value.ref b] s) (F0 m 45 ls []) := by
  obtain ⟨C0, hK, hL⟩ := id hC
  obtain ⟨hx, hb, hr, hml, hown, hts0, hX, hbl, hlocks, hgv⟩ := id C0
  have hts : ∀ w ∈ wsL_law, w.before #[Value.ref b] s = true := fun w h => hts0 w (wsL_law_in w h)
  have hown : s.vm.findClass RL = some m.cls := hown
  have hbA : ¬ (fun a : Nat => s.heap.size ≤ a) b := Nat.not_le.mpr hbl
  refine W.loopH (fun turn H locs ls => ∃ co, lqI D cI q a1 a2 co s H locs ∧ lv_has ls 24 (lqL b q a1 a2 co turn)) 60 0 (Nat.zero_le _) ⟨co, hI, hl⟩ ?_
  clear hI hl
  intro turn H locs ls hi hI ih
  obtain ⟨co, hI, hl⟩ := hI
  have hS : va_S (fun a : Nat => s.heap.size ≤ a) s.heap H locs := by
    obtain ⟨_, _, _, _, _, _, _, _, _, _, _, _, _, _, _, _, -, -, -, hS⟩ := hI
    exact hS
  have hl : lv_has ls 24 [(0, .ref b), (1, .ref (q 0)), (2, .ref a1), (3, .ref a2), (4, .long co), (6, .int (nI turn))] := hl
  refine lv_iload hx hb dL_law_45 (lv_at hl 5 rfl) ?_
  refine lv_bipush (v := nI 60) hx hb dL_law_47 (by decide) ?_
  refine n_icmp_ge (tgt := 833) hx hb dL_law_49 (by decide) (by omega) (by omega) (fun c_49 => ?_) (fun c_49 => ?_)
  · refine lv_iconst (v := nI 1) hx hb dL_law_833 (by decide) ?_
    refine va_forget (fun z hz => hS.2.2 z hz) ?_
    exact lw_ret hx hb hr hlocks dL_law_834
  · refine lv_aload_n hx hb dL_law_52 rfl (lv_at hl 0 rfl) ?_
    refine lv_iconst (v := nI 2) hx hb dL_law_53 (by decide) ?_
    refine lv_iload hx hb dL_law_54 (lv_at hl 5 rfl) ?_
    refine lv_imul hx hb dL_law_56 ?_
    refine lv_as (y := nI (2 * turn)) (pk_mul _ _) ?_
    refine k_callSi (As := [.ref b, .int (nI (2 * turn))]) (rest := []) ⟨hx, hb, hml, hown, hts⟩ (c_L_cell l b L xs (2 * turn) (by omega) (by omega)) (va_cwS 2 hts gL_law_L_cell rfl rfl rfl (by decide +kernel) ⟨Nat.le_of_ble_eq_true rfl, Nat.le_of_ble_eq_true rfl⟩) k_X_bl (k_X_of hX hbl hbA hS) rfl hl.1 rfl (Nat.le_of_ble_eq_true rfl) dL_law_57 ⟨Nat.le_of_ble_eq_true rfl, Nat.le_of_ble_eq_true rfl⟩ ?_
    obtain ⟨vv, e_vv⟩ : ∃ z, cellG L xs (2 * turn) = z := ⟨_, rfl⟩
    refine lv_as (y := vv) (e_vv) ?_
    refine lv_istore (lv' := [(7, .int vv), (0, .ref b), (1, .ref (q 0)), (2, .ref a1), (3, .ref a2), (4, .long co), (6, .int (nI turn))]) hx hb dL_law_60 hl (by decide) rfl (fun ls hl => ?_)
    refine lv_aload_n hx hb dL_law_62 rfl (lv_at hl 1 rfl) ?_
    refine lv_iconst (v := nI 2) hx hb dL_law_63 (by decide) ?_
    refine lv_iload hx hb dL_law_64 (lv_at hl 6 rfl) ?_
    refine lv_imul hx hb dL_law_66 ?_
    refine lv_as (y := nI (2 * turn)) (pk_mul _ _) ?_
    refine lv_iconst (v := nI 1) hx hb dL_law_67 (by decide) ?_
    refine lv_iadd hx hb dL_law_68 ?_
    refine lv_as (y := nI ((2 * turn) + 1)) (nI_add _ _) ?_
    refine k_callSi (As := [.ref b, .int (nI ((2 * turn) + 1))]) (rest := []) ⟨hx, hb, hml, hown, hts⟩ (c_L_cell l b L xs ((2 * turn) + 1) (by omega) (by omega)) (va_cwS 2 hts gL_law_L_cell rfl rfl rfl (by decide +kernel) ⟨Nat.le_of_ble_eq_true rfl, Nat.le_of_ble_eq_true rfl⟩) k_X_bl (k_X_of hX hbl hbA hS) rfl hl.1 rfl (Nat.le_of_ble_eq_true rfl) dL_law_69 ⟨Nat.le_of_ble_eq_true rfl, Nat.le_of_ble_eq_true rfl⟩ ?_
    obtain ⟨ww, e_ww⟩ : ∃ z, cellG L xs ((2 * turn) + 1) = z := ⟨_, rfl⟩
    refine lv_as (y := ww) (e_ww) ?_
    refine lv_istore (lv' := [(8, .int ww), (7, .int vv), (0, .ref b), (1, .ref (q 0)), (2, .ref a1), (3, .ref a2), (4, .long co), (6, .int (nI turn))]) hx hb dL_law_72 hl (by decide) rfl (fun ls hl => ?_)
    refine lv_iload hx hb dL_law_74 (lv_at hl 1 rfl) ?_
    refine lv_bipush (v := nI 13) hx hb dL_law_76 (by decide) ?_
    refine k_callSi (As := [.int vv, .int (nI 13)]) (rest := []) ⟨hx, hb, hml, hown, hts⟩ (c_L_low l vv 13 (by decide) (by decide)) (va_cwS 2 hts gL_law_L_low rfl rfl rfl (by decide +kernel) ⟨Nat.le_of_ble_eq_true rfl, Nat.le_of_ble_eq_true rfl⟩) k_bl_tt (fun _ _ _ => trivial) rfl hl.1 rfl (Nat.le_of_ble_eq_true rfl) dL_law_78 ⟨Nat.le_of_ble_eq_true rfl, Nat.le_of_ble_eq_true rfl⟩ ?_
    obtain ⟨what, e_what⟩ : ∃ z, lowN vv 13 = z := ⟨_, rfl⟩
    have h_what : what < 13 := by rw [← e_what]; exact lowN_lt _ (by decide)
    refine lv_as (y := nI what) (congrArg nI e_what) ?_
    refine lv_istore (lv' := [(9, .int (nI what)), (8, .int ww), (7, .int vv), (0, .ref b), (1, .ref (q 0)), (2, .ref a1), (3, .ref a2), (4, .long co), (6, .int (nI turn))]) hx hb dL_law_81 hl (by decide) rfl (fun ls hl => ?_)
    refine lv_iload hx hb dL_law_83 (lv_at hl 1 rfl) ?_
    refine lv_bipush (v := nI 8) hx hb dL_law_85 (by decide) ?_
    refine k_callSi (As := [.int ww, .int (nI 8)]) (rest := []) ⟨hx, hb, hml, hown, hts⟩ (c_L_low l ww 8 (by decide) (by decide)) (va_cwS 2 hts gL_law_L_low rfl rfl rfl (by decide +kernel) ⟨Nat.le_of_ble_eq_true rfl, Nat.le_of_ble_eq_true rfl⟩) k_bl_tt (fun _ _ _ => trivial) rfl hl.1 rfl (Nat.le_of_ble_eq_true rfl) dL_law_87 ⟨Nat.le_of_ble_eq_true rfl, Nat.le_of_ble_eq_true rfl⟩ ?_
    obtain ⟨p0, e_p0⟩ : ∃ z, lowN ww 8 = z := ⟨_, rfl⟩
    have h_p0 : p0 < 8 := by rw [← e_p0]; exact lowN_lt _ (by decide)
    refine lv_as (y := nI p0) (congrArg nI e_p0) ?_
    refine lv_istore (lv' := [(10, .int (nI p0)), (9, .int (nI what)), (8, .int ww), (7, .int vv), (0, .ref b), (1, .ref (q 0)), (2, .ref a1), (3, .ref a2), (4, .long co), (6, .int (nI turn))]) hx hb dL_law_90 hl (by decide) rfl (fun ls hl => ?_)
    refine lv_iload hx hb dL_law_92 (lv_at hl 2 rfl) ?_
    refine lv_iconst (v := nI 3) hx hb dL_law_94 (by decide) ?_
    refine lv_ishr hx hb dL_law_95 ?_
    refine lv_iconst (v := nI 4) hx hb dL_law_96 (by decide) ?_
    refine k_callSi (As := [.int (ww >>> ((nI 3) &&& 31)), .int (nI 4)]) (rest := []) ⟨hx, hb, hml, hown, hts⟩ (c_L_low l (ww >>> ((nI 3) &&& 31)) 4 (by decide) (by decide)) (va_cwS 2 hts gL_law_L_low rfl rfl rfl (by decide +kernel) ⟨Nat.le_of_ble_eq_true rfl, Nat.le_of_ble_eq_true rfl⟩) k_bl_tt (fun _ _ _ => trivial) rfl hl.1 rfl (Nat.le_of_ble_eq_true rfl) dL_law_97 ⟨Nat.le_of_ble_eq_true rfl, Nat.le_of_ble_eq_true rfl⟩ ?_
    obtain ⟨x0, e_x0⟩ : ∃ z, lowN (ww >>> ((nI 3) &&& 31)) 4 = z := ⟨_, rfl⟩
    have h_x0 : x0 < 4 := by rw [← e_x0]; exact lowN_lt _ (by decide)
    refine lv_as (y := nI x0) (congrArg nI e_x0) ?_
    refine lv_istore (lv' := [(11, .int (nI x0)), (10, .int (nI p0)), (9, .int (nI what)), (8, .int ww), (7, .int vv), (0, .ref b), (1, .ref (q 0)), (2, .ref a1), (3, .ref a2), (4, .long co), (6, .int (nI turn))]) hx hb dL_law_100 hl (by decide) rfl (fun ls hl => ?_)
    refine lv_iconst (v := nI 4) hx hb dL_law_102 (by decide) ?_
    refine lv_iload hx hb dL_law_103 (lv_at hl 1 rfl) ?_
    refine lv_imul hx hb dL_law_105 ?_
    refine lv_as (y := nI (4 * p0)) (pk_mul _ _) ?_
    refine lv_iload hx hb dL_law_106 (lv_at hl 0 rfl) ?_
    refine lv_iadd hx hb dL_law_108 ?_
    refine lv_as (y := nI (p0 * 4 + x0)) ((nI_add _ _).trans (congrArg nI (by omega))) ?_
    refine lv_istore (lv' := [(12, .int (nI (p0 * 4 + x0))), (11, .int (nI x0)), (10, .int (nI p0)), (9, .int (nI what)), (8, .int ww), (7, .int vv), (0, .ref b), (1, .ref (q 0)), (2, .ref a1), (3, .ref a2), (4, .long co), (6, .int (nI turn))]) hx hb dL_law_109 hl (by decide) rfl (fun ls hl => ?_)
    refine lv_iconst (v := nI 1) hx hb dL_law_111 (by decide) ?_
    refine lv_iload hx hb dL_law_112 (lv_at hl 4 rfl) ?_
    refine lv_iconst (v := nI 5) hx hb dL_law_114 (by decide) ?_
    refine lv_ishr hx hb dL_law_115 ?_
    refine lv_iconst (v := nI 5) hx hb dL_law_116 (by decide) ?_
    refine k_callSi (As := [.int (ww >>> ((nI 5) &&& 31)), .int (nI 5)]) (rest := [.int (nI 1)]) ⟨hx, hb, hml, hown, hts⟩ (c_L_low l (ww >>> ((nI 5) &&& 31)) 5 (by decide) (by decide)) (va_cwS 2 hts gL_law_L_low rfl rfl rfl (by decide +kernel) ⟨Nat.le_of_ble_eq_true rfl, Nat.le_of_ble_eq_true rfl⟩) k_bl_tt (fun _ _ _ => trivial) rfl hl.1 rfl (Nat.le_of_ble_eq_true rfl) dL_law_117 ⟨Nat.le_of_ble_eq_true rfl, Nat.le_of_ble_eq_true rfl⟩ ?_
    obtain ⟨mk, e_mk⟩ : ∃ z, lowN (ww >>> ((nI 5) &&& 31)) 5 = z := ⟨_, rfl⟩
    have h_mk : mk < 5 := by rw [← e_mk]; exact lowN_lt _ (by decide)
    refine lv_as (y := nI mk) (congrArg nI e_mk) ?_
    refine lv_iadd hx hb dL_law_120 ?_
    obtain ⟨k, hk1, hk5, ek⟩ : ∃ k, 1 ≤ k ∧ k ≤ 5 ∧ nI 1 + nI mk = nI k := ⟨1 + mk, by omega, by omega, nI_add _ _⟩
    refine lv_as (y := nI k) (ek) ?_
    refine lv_istore (lv' := [(13, .int (nI k)), (12, .int (nI (p0 * 4 + x0))), (11, .int (nI x0)), (10, .int (nI p0)), (9, .int (nI what)), (8, .int ww), (7, .int vv), (0, .ref b), (1, .ref (q 0)), (2, .ref a1), (3, .ref a2), (4, .long co), (6, .int (nI turn))]) hx hb dL_law_121 hl (by decide) rfl (fun ls hl => ?_)
    refine lv_iload hx hb dL_law_123 (lv_at hl 5 rfl) ?_
    refine lv_bipush (v := nI 8) hx hb dL_law_125 (by decide) ?_
    refine lv_ishr hx hb dL_law_127 ?_
    refine lv_iconst (v := nI 1) hx hb dL_law_128 (by decide) ?_
    refine lv_iconst (v := nI 3) hx hb dL_law_129 (by decide) ?_
    refine lv_iload hx hb dL_law_130 (lv_at hl 0 rfl) ?_
    refine lv_imul hx hb dL_law_132 ?_
    refine lv_as (y := nI (3 * k)) (pk_mul _ _) ?_
    refine lv_ishl hx hb dL_law_133 ?_
    refine lv_as (y := nI (8 ^ k)) (shl8 k (by omega)) ?_
    refine k_callSi (As := [.int (ww >>> ((nI 8) &&& 31)), .int (nI (8 ^ k))]) (rest := []) ⟨hx, hb, hml, hown, hts⟩ (c_L_low l (ww >>> ((nI 8) &&& 31)) (8 ^ k) (p8_pos _) (by have := p8_le (k := k) (by omega); omega)) (va_cwS 2 hts gL_law_L_low rfl rfl rfl (by decide +kernel) ⟨Nat.le_of_ble_eq_true rfl, Nat.le_of_ble_eq_true rfl⟩) k_bl_tt (fun _ _ _ => trivial) rfl hl.1 rfl (Nat.le_of_ble_eq_true rfl) dL_law_134 ⟨Nat.le_of_ble_eq_true rfl, Nat.le_of_ble_eq_true rfl⟩ ?_
    obtain ⟨t, e_t⟩ : ∃ z, lowN (ww >>> ((nI 8) &&& 31)) (8 ^ k) = z := ⟨_, rfl⟩
    have h_t : t < 8 ^ k := by rw [← e_t]; exact lowN_lt _ (p8_pos _)
    refine lv_as (y := nI t) (congrArg nI e_t) ?_
    refine lv_istore (lv' := [(14, .int (nI t)), (13, .int (nI k)), (12, .int (nI (p0 * 4 + x0))), (11, .int (nI x0)), (10, .int (nI p0)), (9, .int (nI what)), (8, .int ww), (7, .int vv), (0, .ref b), (1, .ref (q 0)), (2, .ref a1), (3, .ref a2), (4, .long co), (6, .int (nI turn))]) hx hb dL_law_137 hl (by decide) rfl (fun ls hl => ?_)
    refine lv_iconst (v := nI 1) hx hb dL_law_139 (by decide) ?_
    refine lv_istore (lv' := [(15, .int (nI 1)), (14, .int (nI t)), (13, .int (nI k)), (12, .int (nI (p0 * 4 + x0))), (11, .int (nI x0)), (10, .int (nI p0)), (9, .int (nI what)), (8, .int ww), (7, .int vv), (0, .ref b), (1, .ref (q 0)), (2, .ref a1), (3, .ref a2), (4, .long co), (6, .int (nI turn))]) hx hb dL_law_140 hl (by decide) rfl (fun ls hl => ?_)
    refine lv_iload hx hb dL_law_142 (lv_at hl 6 rfl) ?_
    refine lv_iconst (v := nI 4) hx hb dL_law_144 (by decide) ?_
    refine n_icmp_ge (tgt := 347) hx hb dL_law_145 (by decide) (by omega) (by omega) (fun c_145 => ?_) (fun c_145 => ?_)
    · refine lv_iload hx hb dL_law_347 (lv_at hl 6 rfl) ?_
      refine lv_iconst (v := nI 4) hx hb dL_law_349 (by decide) ?_
      refine n_icmp_ne (tgt := 426) hx hb dL_law_350 (by decide) (by omega) (by omega) (fun c_350 => ?_) (fun c_350 => ?_)
      · refine lv_iload hx hb dL_law_426 (lv_at hl 6 rfl) ?_
        refine lv_bipush (v := nI 7) hx hb dL_law_428 (by decide) ?_
        refine n_icmp_ge (tgt := 480) hx hb dL_law_430 (by decide) (by omega) (by omega) (fun c_430 => ?_) (fun c_430 => ?_)
        · refine lv_iload hx hb dL_law_480 (lv_at hl 6 rfl) ?_
          refine lv_bipush (v := nI 7) hx hb dL_law_482 (by decide) ?_
          refine n_icmp_ne (tgt := 520) hx hb dL_law_484 (by decide) (by omega) (by omega) (fun c_484 => ?_) (fun c_484 => ?_)
          · refine lv_iload hx hb dL_law_520 (lv_at hl 6 rfl) ?_
            refine lv_bipush (v := nI 10) hx hb dL_law_522 (by decide) ?_
            refine n_icmp_ge (tgt := 631) hx hb dL_law_524 (by decide) (by omega) (by omega) (fun c_524 => ?_) (fun c_524 => ?_)
            · refine lv_iload hx hb dL_law_631 (lv_at hl 6 rfl) ?_
              refine lv_bipush (v := nI 10) hx hb dL_law_633 (by decide) ?_
              refine n_icmp_ne (tgt := 688) hx hb dL_law_635 (by decide) (by omega) (by omega) (fun c_635 => ?_) (fun c_635 => ?_)
              · exact lb_walk hC h_p0 h_x0 hk1 hk5 h_t hI (lv_sub hl [9, 10, 11, 12, 13, 14, 8, 7, 0, 5, 4, 3, 2, 1] rfl) (fun H locs ls co hI hl => lb_tail hC hI hl (fun ls hl => ih _ _ _ (by omega) ⟨co, hI, hl⟩))
              · exact lb_remove hC h_p0 h_x0 hk1 hk5 h_t hI (lv_sub hl [9, 10, 11, 12, 13, 14, 8, 7, 0, 5, 4, 3, 2, 1] rfl) (fun H locs ls co hI hl => lb_tail hC hI hl (fun ls hl => ih _ _ _ (by omega) ⟨co, hI, hl⟩))
            · exact lb_cut hC h_p0 h_x0 hk1 hk5 h_t hI (lv_sub hl [9, 10, 11, 12, 13, 14, 8, 7, 0, 5, 4, 3, 2, 1] rfl) (fun H locs ls co hI hl => lb_tail hC hI hl (fun ls hl => ih _ _ _ (by omega) ⟨co, hI, hl⟩))
          · exact lb_name hC h_p0 h_x0 hk1 hk5 h_t hI (lv_sub hl [9, 10, 11, 12, 13, 14, 8, 7, 0, 5, 4, 3, 2, 1] rfl) (fun H locs ls co hI hl => lb_tail hC hI hl (fun ls hl => ih _ _ _ (by omega) ⟨co, hI, hl⟩))
        · exact lb_lead hC h_p0 h_x0 hk1 hk5 h_t hI (lv_sub hl [9, 10, 11, 12, 13, 14, 8, 7, 0, 5, 4, 3, 2, 1] rfl) (fun H locs ls co hI hl => lb_tail hC hI hl (fun ls hl => ih _ _ _ (by omega) ⟨co, hI, hl⟩))
      · exact lb_space hC hI (lv_sub hl [9, 10, 11, 12, 13, 14, 8, 7, 0] rfl) (fun H locs ls co hI hl => lb_tail hC hI hl (fun ls hl => ih _ _ _ (by omega) ⟨co, hI, hl⟩))
    · exact lb_stroke hC hI (lv_sub hl [9, 10, 11, 12, 13, 14, 8, 7, 0] rfl) (fun H locs ls co hI hl => lb_tail hC hI hl (fun ls hl => ih _ _ _ (by omega) ⟨co, hI, hl⟩))
