set_option maxHeartbeats 4000000 in
set_option maxRecDepth 100000 in
theorem c_X0_stroke (l : Launch) (D : va_G) (cI : ClassId) (q : Nat → Nat) (sh sp ld nm tx ds ct : Nat → Int32) (co : Int64) (kg : Int32) (ks : Nat → Int32) (g a b c0 d0 : Nat) (bk : Int32) (hg : g < 8) (ha : a < 5) (hb5 : b < 5) (hc : c0 < 5) (hd : d0 < 5) (hln : lnK a b c0 d0 = true) (hsh : ∀ g, g < 8 → S25 (sh g)) (hDt : va_D (fun _ => True) (wx cI q sh sp ld nm tx ds ct co kg ks)) : Met l yX0_stroke wsX0_stroke ({ frames := 2, cells := 0, slots := 0, locals := 51 } : Room) (k_P [.ref (q 0), .int (nI g), .int (nI a), .int (nI b), .int (nI c0), .int (nI d0), .int bk] (k_B D (wx cI q sh sp ld nm tx ds ct co kg ks) [(cI, .int)])) (k_WQ D (wx cI q sh sp ld nm tx ds ct co kg ks) (fun u : Unit => True) (fun u => wx cI q (upd sh g (stk bk (sh g) (lcN a b c0 d0))) sp ld nm tx ds ct co (nI 0) ks) (fun u => some (.int (df (sh g) (stk bk (sh g) (lcN a b c0 d0)))))) 0 0 (k_A (wx cI q sh sp ld nm tx ds ct co kg ks)) := by
  refine k_head (cc := cX0_stroke) (maxL := 10) (ret := (some .int)) [(0, .ref (q 0)), (1, .int (nI g)), (2, .int (nI a)), (3, .int (nI b)), (4, .int (nI c0)), (5, .int (nI d0)), (6, .int bk)] (by decide) rfl (Nat.le_of_ble_eq_true rfl) rfl ?_
  intro p e s m below meth c ls hx hb hr hml hown hts hlocks hname hB hl
  have hown : s.vm.findClass RX0 = some m.cls := hown
  obtain ⟨hP, hK⟩ := hB
  have hin : ∀ w ∈ wsX00, w ∈ wsX0_stroke := fun w h => List.mem_cons_of_mem _ (List.mem_append_left _ (List.mem_append_left _ (List.mem_append_right _ h)))
  have hD := k_A_D hDt
  have hS : va_S (k_A (wx cI q sh sp ld nm tx ds ct co kg ks)) s.heap s.heap [] := va_S.rf
  refine lv_iload_n hx hb dX0_stroke_0 rfl (lv_at hl 1 rfl) ?_
  refine k_callS0 (As := [.int (nI g)]) (rest := []) ⟨hx, hb, hml, hown, hts⟩ (c_X0_requireGlyph l g (by omega)) (va_cwS 1 hts gX0_stroke_X0_requireGlyph rfl rfl rfl (by decide +kernel) ⟨Nat.le_of_ble_eq_true rfl, Nat.le_of_ble_eq_true rfl⟩) k_bl_tt (fun _ _ _ => trivial) rfl hl.1 rfl (Nat.le_of_ble_eq_true rfl) dX0_stroke_1 ⟨Nat.zero_le _, Nat.zero_le _⟩ ?_
  refine lv_iload_n hx hb dX0_stroke_4 rfl (lv_at hl 2 rfl) ?_
  refine lv_iload_n hx hb dX0_stroke_5 rfl (lv_at hl 3 rfl) ?_
  refine lv_iload hx hb dX0_stroke_6 (lv_at hl 4 rfl) ?_
  refine lv_iload hx hb dX0_stroke_8 (lv_at hl 5 rfl) ?_
  refine k_callS0 (As := [.int (nI a), .int (nI b), .int (nI c0), .int (nI d0)]) (rest := []) ⟨hx, hb, hml, hown, hts⟩ (c_X0_requireLine l a b c0 d0 (by omega) (by omega) (by omega) (by omega) hln) (va_cwS 4 hts gX0_stroke_X0_requireLine rfl rfl rfl (by decide +kernel) ⟨Nat.le_of_ble_eq_true rfl, Nat.le_of_ble_eq_true rfl⟩) k_bl_tt (fun _ _ _ => trivial) rfl hl.1 rfl (Nat.le_of_ble_eq_true rfl) dX0_stroke_10 ⟨Nat.zero_le _, Nat.zero_le _⟩ ?_
  refine lv_iload_n hx hb dX0_stroke_13 rfl (lv_at hl 2 rfl) ?_
  refine lv_iload_n hx hb dX0_stroke_14 rfl (lv_at hl 3 rfl) ?_
  refine lv_iload hx hb dX0_stroke_15 (lv_at hl 4 rfl) ?_
  refine lv_iload hx hb dX0_stroke_17 (lv_at hl 5 rfl) ?_
  refine k_callSi (As := [.int (nI a), .int (nI b), .int (nI c0), .int (nI d0)]) (rest := []) ⟨hx, hb, hml, hown, hts⟩ (c_X0_lineCells l a b c0 d0 (by omega) (by omega) (by omega) (by omega)) (va_cwS 4 hts gX0_stroke_X0_lineCells rfl rfl rfl (by decide +kernel) ⟨Nat.le_of_ble_eq_true rfl, Nat.le_of_ble_eq_true rfl⟩) k_bl_tt (fun _ _ _ => trivial) rfl hl.1 rfl (Nat.le_of_ble_eq_true rfl) dX0_stroke_19 ⟨Nat.zero_le _, Nat.zero_le _⟩ ?_
  refine lv_istore (lv' := [(7, .int (lcN a b c0 d0)), (0, .ref (q 0)), (1, .int (nI g)), (2, .int (nI a)), (3, .int (nI b)), (4, .int (nI c0)), (5, .int (nI d0)), (6, .int bk)]) hx hb dX0_stroke_22 hl (by decide) rfl (fun ls hl => ?_)
  refine lv_aload_n hx hb dX0_stroke_24 rfl (lv_at hl 1 rfl) ?_
  refine va_get (D := D) (ci := 0) (v := .ref (q 1)) (C := RX0) (T := TX0) (N := 10) hx hb hts hin hown hK hP 0 rfl rfl 0 (by decide) (hts (.fieldLink RX0 9 "SignRail" "shapes" "[I") (by decide +kernel)) (fun _ h9 => h9) rfl dX0_stroke_25 ?_
  refine lv_iload_n hx hb dX0_stroke_28 rfl (lv_at hl 2 rfl) ?_
  refine n_iald hx hb hK hP 1 0 rfl rfl (k := g) (by omega) (Nat.le_of_ble_eq_true rfl) dX0_stroke_29 ?_
  refine lv_istore (lv' := [(8, .int (sh g)), (7, .int (lcN a b c0 d0)), (0, .ref (q 0)), (1, .int (nI g)), (2, .int (nI a)), (3, .int (nI b)), (4, .int (nI c0)), (5, .int (nI d0)), (6, .int bk)]) hx hb dX0_stroke_30 hl (by decide) rfl (fun ls hl => ?_)
  refine lv_iload hx hb dX0_stroke_32 (lv_at hl 8 rfl) ?_
  refine lv_if_eq (tgt := 45) hx hb dX0_stroke_34 (by decide) (fun c_34 => ?_) (fun c_34 => ?_)
  · refine lv_iload hx hb dX0_stroke_45 (lv_at hl 0 rfl) ?_
    refine lv_iload hx hb dX0_stroke_47 (lv_at hl 1 rfl) ?_
    refine lv_iconst (v := (-1)) hx hb dX0_stroke_49 (by decide) ?_
    refine lv_ixor hx hb dX0_stroke_50 ?_
    refine lv_iand hx hb dX0_stroke_51 ?_
    refine lv_as (y := stk bk (sh g) (lcN a b c0 d0)) ((if_pos c_34).symm) ?_
    refine lv_istore (lv' := [(9, .int (stk bk (sh g) (lcN a b c0 d0))), (8, .int (sh g)), (7, .int (lcN a b c0 d0)), (0, .ref (q 0)), (1, .int (nI g)), (2, .int (nI a)), (3, .int (nI b)), (4, .int (nI c0)), (5, .int (nI d0)), (6, .int bk)]) hx hb dX0_stroke_52 hl (by decide) rfl (fun ls hl => ?_)
    refine lv_aload_n hx hb dX0_stroke_54 rfl (lv_at hl 3 rfl) ?_
    refine va_get (D := D) (ci := 0) (v := .ref (q 1)) (C := RX0) (T := TX0) (N := 10) hx hb hts hin hown hK hP 0 rfl rfl 0 (by decide) (hts (.fieldLink RX0 9 "SignRail" "shapes" "[I") (by decide +kernel)) (fun _ h9 => h9) rfl dX0_stroke_55 ?_
    refine lv_iload_n hx hb dX0_stroke_58 rfl (lv_at hl 4 rfl) ?_
    refine lv_iload hx hb dX0_stroke_59 (lv_at hl 0 rfl) ?_
    refine n_iast hx hb hK hP hD hS 1 0 rfl rfl (k := g) (by omega) (Nat.le_of_ble_eq_true rfl) dX0_stroke_61 (fun H locs hP hD hS => ?_)
    have hP : va_P D vwCl (wx cI q (upd sh g (stk bk (sh g) (lcN a b c0 d0))) sp ld nm tx ds ct co kg ks) H := hP
    have hD : va_D _ (wx cI q (upd sh g (stk bk (sh g) (lcN a b c0 d0))) sp ld nm tx ds ct co kg ks) := hD
    refine lv_aload_n hx hb dX0_stroke_62 rfl (lv_at hl 3 rfl) ?_
    refine k_callVW (wr := []) (As := []) (rest := []) ⟨hx, hb, hml, hown, hts⟩ (c_X0_forgetWalks l D cI q (upd sh g (stk bk (sh g) (lcN a b c0 d0))) sp ld nm tx ds ct co kg ks (k_D_tt hD)) (cwV 0 hts gX0_stroke_X0_forgetWalks rfl rfl rfl (by decide +kernel) ⟨Nat.le_of_ble_eq_true rfl, Nat.le_of_ble_eq_true rfl⟩) k_B_bl (k_B_of hP hK) (va_recv hK hP (ci := 0) (q0 := 0) rfl rfl) rfl hl.1 rfl (Nat.le_of_ble_eq_true rfl) dX0_stroke_63 ⟨Nat.le_of_ble_eq_true rfl, Nat.le_of_ble_eq_true rfl⟩ hP hD hS [] [0, 1, 2, 3, 4, 5, 6, 7, 8] rfl rfl (fun _ => rfl) (fun u_63 H locs hu_63 hP hD hS hsz hkp => ?_)
    have hP : va_P D vwCl (wx cI q (upd sh g (stk bk (sh g) (lcN a b c0 d0))) sp ld nm tx ds ct co (nI 0) ks) H := hP
    have hD : va_D _ (wx cI q (upd sh g (stk bk (sh g) (lcN a b c0 d0))) sp ld nm tx ds ct co (nI 0) ks) := hD
    refine lv_iload hx hb dX0_stroke_66 (lv_at hl 1 rfl) ?_
    refine lv_iload hx hb dX0_stroke_68 (lv_at hl 0 rfl) ?_
    refine k_callSi (As := [.int (sh g), .int (stk bk (sh g) (lcN a b c0 d0))]) (rest := []) ⟨hx, hb, hml, hown, hts⟩ (c_X0_differing l (sh g) (stk bk (sh g) (lcN a b c0 d0)) (hsh _ hg) (S25_stk (hsh _ hg) (S25_lcN ha hb5 hc hd hln))) (va_cwS 2 hts gX0_stroke_X0_differing rfl rfl rfl (by decide +kernel) ⟨Nat.le_of_ble_eq_true rfl, Nat.le_of_ble_eq_true rfl⟩) k_bl_tt (fun _ _ _ => trivial) rfl hl.1 rfl (Nat.le_of_ble_eq_true rfl) dX0_stroke_70 ⟨Nat.zero_le _, Nat.zero_le _⟩ ?_
    exact k_wiret (())  hx hb hr hlocks dX0_stroke_73 (trivial) rfl hP hS (Nat.le_of_ble_eq_true rfl) (Nat.le_of_ble_eq_true rfl)
  · refine lv_iload hx hb dX0_stroke_37 (lv_at hl 0 rfl) ?_
    refine lv_iload hx hb dX0_stroke_39 (lv_at hl 1 rfl) ?_
    refine lv_ior hx hb dX0_stroke_41 ?_
    refine lv_as (y := stk bk (sh g) (lcN a b c0 d0)) ((if_neg c_34).symm) ?_
    refine lv_goto (tgt := 52) hx hb dX0_stroke_42 (by decide) ?_
    refine lv_istore (lv' := [(9, .int (stk bk (sh g) (lcN a b c0 d0))), (8, .int (sh g)), (7, .int (lcN a b c0 d0)), (0, .ref (q 0)), (1, .int (nI g)), (2, .int (nI a)), (3, .int (nI b)), (4, .int (nI c0)), (5, .int (nI d0)), (6, .int bk)]) hx hb dX0_stroke_52 hl (by decide) rfl (fun ls hl => ?_)
    refine lv_aload_n hx hb dX0_stroke_54 rfl (lv_at hl 3 rfl) ?_
    refine va_get (D := D) (ci := 0) (v := .ref (q 1)) (C := RX0) (T := TX0) (N := 10) hx hb hts hin hown hK hP 0 rfl rfl 0 (by decide) (hts (.fieldLink RX0 9 "SignRail" "shapes" "[I") (by decide +kernel)) (fun _ h9 => h9) rfl dX0_stroke_55 ?_
    refine lv_iload_n hx hb dX0_stroke_58 rfl (lv_at hl 4 rfl) ?_
    refine lv_iload hx hb dX0_stroke_59 (lv_at hl 0 rfl) ?_
    refine n_iast hx hb hK hP hD hS 1 0 rfl rfl (k := g) (by omega) (Nat.le_of_ble_eq_true rfl) dX0_stroke_61 (fun H locs hP hD hS => ?_)
    have hP : va_P D vwCl (wx cI q (upd sh g (stk bk (sh g) (lcN a b c0 d0))) sp ld nm tx ds ct co kg ks) H := hP
    have hD : va_D _ (wx cI q (upd sh g (stk bk (sh g) (lcN a b c0 d0))) sp ld nm tx ds ct co kg ks) := hD
    refine lv_aload_n hx hb dX0_stroke_62 rfl (lv_at hl 3 rfl) ?_
    refine k_callVW (wr := []) (As := []) (rest := []) ⟨hx, hb, hml, hown, hts⟩ (c_X0_forgetWalks l D cI q (upd sh g (stk bk (sh g) (lcN a b c0 d0))) sp ld nm tx ds ct co kg ks (k_D_tt hD)) (cwV 0 hts gX0_stroke_X0_forgetWalks rfl rfl rfl (by decide +kernel) ⟨Nat.le_of_ble_eq_true rfl, Nat.le_of_ble_eq_true rfl⟩) k_B_bl (k_B_of hP hK) (va_recv hK hP (ci := 0) (q0 := 0) rfl rfl) rfl hl.1 rfl (Nat.le_of_ble_eq_true rfl) dX0_stroke_63 ⟨Nat.le_of_ble_eq_true rfl, Nat.le_of_ble_eq_true rfl⟩ hP hD hS [] [0, 1, 2, 3, 4, 5, 6, 7, 8] rfl rfl (fun _ => rfl) (fun u_63 H locs hu_63 hP hD hS hsz hkp => ?_)
    have hP : va_P D vwCl (wx cI q (upd sh g (stk bk (sh g) (lcN a b c0 d0))) sp ld nm tx ds ct co (nI 0) ks) H := hP
    have hD : va_D _ (wx cI q (upd sh g (stk bk (sh g) (lcN a b c0 d0))) sp ld nm tx ds ct co (nI 0) ks) := hD
    refine lv_iload hx hb dX0_stroke_66 (lv_at hl 1 rfl) ?_
    refine lv_iload hx hb dX0_stroke_68 (lv_at hl 0 rfl) ?_
    refine k_callSi (As := [.int (sh g), .int (stk bk (sh g) (lcN a b c0 d0))]) (rest := []) ⟨hx, hb, hml, hown, hts⟩ (c_X0_differing l (sh g) (stk bk (sh g) (lcN a b c0 d0)) (hsh _ hg) (S25_stk (hsh _ hg) (S25_lcN ha hb5 hc hd hln))) (va_cwS 2 hts gX0_stroke_X0_differing rfl rfl rfl (by decide +kernel) ⟨Nat.le_of_ble_eq_true rfl, Nat.le_of_ble_eq_true rfl⟩) k_bl_tt (fun _ _ _ => trivial) rfl hl.1 rfl (Nat.le_of_ble_eq_true rfl) dX0_stroke_70 ⟨Nat.zero_le _, Nat.zero_le _⟩ ?_
    exact k_wiret (())  hx hb hr hlocks dX0_stroke_73 (trivial) rfl hP hS (Nat.le_of_ble_eq_true rfl) (Nat.le_of_ble_eq_true rfl)
set_option maxHeartbeats 4000000 in
set_option maxRecDepth 100000 in
theorem c_X0_difference (l : Launch) (D : va_G) (cI : ClassId) (q : Nat → Nat) (sh sp ld nm tx ds ct : Nat → Int32) (co : Int64) (kg : Int32) (ks : Nat → Int32) (i j : Nat) (hi : i < 8) (hj : j < 8) (hsh : ∀ g, g < 8 → S25 (sh g)) : k_M l yX0_difference wsX0_difference ({ frames := 2, cells := 0, slots := 0, locals := 41 } : Room) [.ref (q 0), .int (nI i), .int (nI j)] (k_B D (wx cI q sh sp ld nm tx ds ct co kg ks) [(cI, .int)]) (some (.int (df (sh i) (sh j)))) := by
  refine k_head (cc := cX0_difference) (maxL := 3) (ret := some .int) [(0, .ref (q 0)), (1, .int (nI i)), (2, .int (nI j))] (by decide) rfl (Nat.le_of_ble_eq_true rfl) rfl ?_
  intro p e s m below meth c ls hx hb hr hml hown hts hlocks hname hB hl
  have hown : s.vm.findClass RX0 = some m.cls := hown
  obtain ⟨hP, hK⟩ := hB
  have hin : ∀ w ∈ wsX00, w ∈ wsX0_difference := fun w h => List.mem_cons_of_mem _ (List.mem_append_left _ (List.mem_append_right _ h))
  refine lv_iload_n hx hb dX0_difference_0 rfl (lv_at hl 1 rfl) ?_
  refine k_callS0 (As := [.int (nI i)]) (rest := []) ⟨hx, hb, hml, hown, hts⟩ (c_X0_requireGlyph l i (by omega)) (va_cwS 1 hts gX0_difference_X0_requireGlyph rfl rfl rfl (by decide +kernel) ⟨Nat.le_of_ble_eq_true rfl, Nat.le_of_ble_eq_true rfl⟩) k_bl_tt (fun _ _ _ => trivial) rfl hl.1 rfl (Nat.le_of_ble_eq_true rfl) dX0_difference_1 ⟨Nat.zero_le _, Nat.zero_le _⟩ ?_
  refine lv_iload_n hx hb dX0_difference_4 rfl (lv_at hl 2 rfl) ?_
  refine k_callS0 (As := [.int (nI j)]) (rest := []) ⟨hx, hb, hml, hown, hts⟩ (c_X0_requireGlyph l j (by omega)) (va_cwS 1 hts gX0_difference_X0_requireGlyph rfl rfl rfl (by decide +kernel) ⟨Nat.le_of_ble_eq_true rfl, Nat.le_of_ble_eq_true rfl⟩) k_bl_tt (fun _ _ _ => trivial) rfl hl.1 rfl (Nat.le_of_ble_eq_true rfl) dX0_difference_5 ⟨Nat.zero_le _, Nat.zero_le _⟩ ?_
  refine lv_aload_n hx hb dX0_difference_8 rfl (lv_at hl 0 rfl) ?_
  refine va_get (D := D) (ci := 0) (v := .ref (q 1)) (C := RX0) (T := TX0) (N := 10) hx hb hts hin hown hK hP 0 rfl rfl 0 (by decide) (hts (.fieldLink RX0 9 "SignRail" "shapes" "[I") (by decide +kernel)) (fun _ h9 => h9) rfl dX0_difference_9 ?_
  refine lv_iload_n hx hb dX0_difference_12 rfl (lv_at hl 1 rfl) ?_
  refine n_iald hx hb hK hP 1 0 rfl rfl (k := i) (by omega) (Nat.le_of_ble_eq_true rfl) dX0_difference_13 ?_
  refine lv_aload_n hx hb dX0_difference_14 rfl (lv_at hl 0 rfl) ?_
  refine va_get (D := D) (ci := 0) (v := .ref (q 1)) (C := RX0) (T := TX0) (N := 10) hx hb hts hin hown hK hP 0 rfl rfl 0 (by decide) (hts (.fieldLink RX0 9 "SignRail" "shapes" "[I") (by decide +kernel)) (fun _ h9 => h9) rfl dX0_difference_15 ?_
  refine lv_iload_n hx hb dX0_difference_18 rfl (lv_at hl 2 rfl) ?_
  refine n_iald hx hb hK hP 1 0 rfl rfl (k := j) (by omega) (Nat.le_of_ble_eq_true rfl) dX0_difference_19 ?_
  refine k_callSi (As := [.int (sh i), .int (sh j)]) (rest := []) ⟨hx, hb, hml, hown, hts⟩ (c_X0_differing l (sh i) (sh j) (hsh _ hi) (hsh _ hj)) (va_cwS 2 hts gX0_difference_X0_differing rfl rfl rfl (by decide +kernel) ⟨Nat.le_of_ble_eq_true rfl, Nat.le_of_ble_eq_true rfl⟩) k_bl_tt (fun _ _ _ => trivial) rfl hl.1 rfl (Nat.le_of_ble_eq_true rfl) dX0_difference_20 ⟨Nat.zero_le _, Nat.zero_le _⟩ ?_
  exact k_iret hx hb hr hlocks dX0_difference_23 (rfl)
set_option maxHeartbeats 4000000 in
set_option maxRecDepth 100000 in
theorem c_X0_width (l : Launch) (D : va_G) (cI : ClassId) (q : Nat → Nat) (sh sp ld nm tx ds ct : Nat → Int32) (co : Int64) (kg : Int32) (ks : Nat → Int32) (g : Nat) (hg : g < 8) : k_M l yX0_width wsX0_width ({ frames := 4, cells := 0, slots := 0, locals := 95 } : Room) [.ref (q 0), .int (nI g)] (k_B D (wx cI q sh sp ld nm tx ds ct co kg ks) [(cI, .int)]) (some (.int (wdF (hcC (sh g))))) := by
  refine k_head (cc := cX0_width) (maxL := 2) (ret := some .int) [(0, .ref (q 0)), (1, .int (nI g))] (by decide) rfl (Nat.le_of_ble_eq_true rfl) rfl ?_
  intro p e s m below meth c ls hx hb hr hml hown hts hlocks hname hB hl
  have hown : s.vm.findClass RX0 = some m.cls := hown
  obtain ⟨hP, hK⟩ := hB
  have hin : ∀ w ∈ wsX00, w ∈ wsX0_width := fun w h => List.mem_cons_of_mem _ (List.mem_append_left _ (List.mem_append_right _ h))
  refine lv_iload_n hx hb dX0_width_0 rfl (lv_at hl 1 rfl) ?_
  refine k_callS0 (As := [.int (nI g)]) (rest := []) ⟨hx, hb, hml, hown, hts⟩ (c_X0_requireGlyph l g (by omega)) (va_cwS 1 hts gX0_width_X0_requireGlyph rfl rfl rfl (by decide +kernel) ⟨Nat.le_of_ble_eq_true rfl, Nat.le_of_ble_eq_true rfl⟩) k_bl_tt (fun _ _ _ => trivial) rfl hl.1 rfl (Nat.le_of_ble_eq_true rfl) dX0_width_1 ⟨Nat.zero_le _, Nat.zero_le _⟩ ?_
  refine lv_aload_n hx hb dX0_width_4 rfl (lv_at hl 0 rfl) ?_
  refine va_get (D := D) (ci := 0) (v := .ref (q 1)) (C := RX0) (T := TX0) (N := 10) hx hb hts hin hown hK hP 0 rfl rfl 0 (by decide) (hts (.fieldLink RX0 9 "SignRail" "shapes" "[I") (by decide +kernel)) (fun _ h9 => h9) rfl dX0_width_5 ?_
  refine lv_iload_n hx hb dX0_width_8 rfl (lv_at hl 1 rfl) ?_
  refine n_iald hx hb hK hP 1 0 rfl rfl (k := g) (by omega) (Nat.le_of_ble_eq_true rfl) dX0_width_9 ?_
  refine k_callSi (As := [.int (sh g)]) (rest := []) ⟨hx, hb, hml, hown, hts⟩ (c_X0_shapeWidth l (sh g)) (va_cwS 1 hts gX0_width_X0_shapeWidth rfl rfl rfl (by decide +kernel) ⟨Nat.le_of_ble_eq_true rfl, Nat.le_of_ble_eq_true rfl⟩) k_bl_tt (fun _ _ _ => trivial) rfl hl.1 rfl (Nat.le_of_ble_eq_true rfl) dX0_width_10 ⟨Nat.zero_le _, Nat.zero_le _⟩ ?_
  exact k_iret hx hb hr hlocks dX0_width_13 (rfl)
set_option maxHeartbeats 4000000 in
set_option maxRecDepth 100000 in
theorem c_X0_space (l : Launch) (D : va_G) (cI : ClassId) (q : Nat → Nat) (sh sp ld nm tx ds ct : Nat → Int32) (co : Int64) (kg : Int32) (ks : Nat → Int32) (i j : Nat) (v : Int32) (hi : i < 8) (hj : j < 8) (hv1 : ¬ v < -1) (hv2 : v ≤ nI 3) (hDt : va_D (fun _ => True) (wx cI q sh sp ld nm tx ds ct co kg ks)) : Met l yX0_space wsX0_space ({ frames := 1, cells := 0, slots := 0, locals := 21 } : Room) (k_P [.ref (q 0), .int (nI i), .int (nI j), .int v] (k_B D (wx cI q sh sp ld nm tx ds ct co kg ks) [(cI, .int)])) (k_WQ D (wx cI q sh sp ld nm tx ds ct co kg ks) (fun u : Unit => True) (fun u => wx cI q sh (upd sp (i * 8 + j) v) ld nm tx ds ct co kg ks) (fun u => some (.int (sp (i * 8 + j))))) 0 0 (k_A (wx cI q sh sp ld nm tx ds ct co kg ks)) := by
  refine k_head (cc := cX0_space) (maxL := 6) (ret := (some .int)) [(0, .ref (q 0)), (1, .int (nI i)), (2, .int (nI j)), (3, .int v)] (by decide) rfl (Nat.le_of_ble_eq_true rfl) rfl ?_
  intro p e s m below meth c ls hx hb hr hml hown hts hlocks hname hB hl
  have hown : s.vm.findClass RX0 = some m.cls := hown
  obtain ⟨hP, hK⟩ := hB
  have hin : ∀ w ∈ wsX00, w ∈ wsX0_space := fun w h => List.mem_cons_of_mem _ (List.mem_append_left _ (List.mem_append_left _ (List.mem_append_right _ h)))
  have hD := k_A_D hDt
  have hS : va_S (k_A (wx cI q sh sp ld nm tx ds ct co kg ks)) s.heap s.heap [] := va_S.rf
  refine lv_iload_n hx hb dX0_space_0 rfl (lv_at hl 1 rfl) ?_
  refine k_callS0 (As := [.int (nI i)]) (rest := []) ⟨hx, hb, hml, hown, hts⟩ (c_X0_requireGlyph l i (by omega)) (va_cwS 1 hts gX0_space_X0_requireGlyph rfl rfl rfl (by decide +kernel) ⟨Nat.le_of_ble_eq_true rfl, Nat.le_of_ble_eq_true rfl⟩) k_bl_tt (fun _ _ _ => trivial) rfl hl.1 rfl (Nat.le_of_ble_eq_true rfl) dX0_space_1 ⟨Nat.zero_le _, Nat.zero_le _⟩ ?_
  refine lv_iload_n hx hb dX0_space_4 rfl (lv_at hl 2 rfl) ?_
  refine k_callS0 (As := [.int (nI j)]) (rest := []) ⟨hx, hb, hml, hown, hts⟩ (c_X0_requireGlyph l j (by omega)) (va_cwS 1 hts gX0_space_X0_requireGlyph rfl rfl rfl (by decide +kernel) ⟨Nat.le_of_ble_eq_true rfl, Nat.le_of_ble_eq_true rfl⟩) k_bl_tt (fun _ _ _ => trivial) rfl hl.1 rfl (Nat.le_of_ble_eq_true rfl) dX0_space_5 ⟨Nat.zero_le _, Nat.zero_le _⟩ ?_
  refine lv_iload_n hx hb dX0_space_8 rfl (lv_at hl 3 rfl) ?_
  refine lv_iconst (v := (-1)) hx hb dX0_space_9 (by decide) ?_
  refine lv_icmp_lt (tgt := 18) hx hb dX0_space_10 (by decide) (fun c_10 => ?_) (fun c_10 => ?_)
  · exact absurd c_10 hv1
  · refine lv_iload_n hx hb dX0_space_13 rfl (lv_at hl 3 rfl) ?_
    refine lv_iconst (v := nI 3) hx hb dX0_space_14 (by decide) ?_
    refine lv_icmp_le (tgt := 28) hx hb dX0_space_15 (by decide) (fun c_15 => ?_) (fun c_15 => ?_)
    · refine lv_iload_n hx hb dX0_space_28 rfl (lv_at hl 1 rfl) ?_
      refine lv_iload_n hx hb dX0_space_29 rfl (lv_at hl 2 rfl) ?_
      refine k_callSi (As := [.int (nI i), .int (nI j)]) (rest := []) ⟨hx, hb, hml, hown, hts⟩ (c_X0_pairOf l i j) (va_cwS 2 hts gX0_space_X0_pairOf rfl rfl rfl (by decide +kernel) ⟨Nat.le_of_ble_eq_true rfl, Nat.le_of_ble_eq_true rfl⟩) k_bl_tt (fun _ _ _ => trivial) rfl hl.1 rfl (Nat.le_of_ble_eq_true rfl) dX0_space_30 ⟨Nat.zero_le _, Nat.zero_le _⟩ ?_
      refine lv_istore (lv' := [(4, .int (nI (i * 8 + j))), (0, .ref (q 0)), (1, .int (nI i)), (2, .int (nI j)), (3, .int v)]) hx hb dX0_space_33 hl (by decide) rfl (fun ls hl => ?_)
      refine lv_aload_n hx hb dX0_space_35 rfl (lv_at hl 1 rfl) ?_
      refine va_get (D := D) (ci := 0) (v := .ref (q 2)) (C := RX0) (T := TX0) (N := 10) hx hb hts hin hown hK hP 0 rfl rfl 1 (by decide) (hts (.fieldLink RX0 13 "SignRail" "spaces" "[I") (by decide +kernel)) (fun _ h9 => h9) rfl dX0_space_36 ?_
      refine lv_iload hx hb dX0_space_39 (lv_at hl 0 rfl) ?_
      refine n_iald hx hb hK hP 2 0 rfl rfl (k := (i * 8 + j)) (by omega) (Nat.le_of_ble_eq_true rfl) dX0_space_41 ?_
      refine lv_istore (lv' := [(5, .int (sp (i * 8 + j))), (4, .int (nI (i * 8 + j))), (0, .ref (q 0)), (1, .int (nI i)), (2, .int (nI j)), (3, .int v)]) hx hb dX0_space_42 hl (by decide) rfl (fun ls hl => ?_)
      refine lv_aload_n hx hb dX0_space_44 rfl (lv_at hl 2 rfl) ?_
      refine va_get (D := D) (ci := 0) (v := .ref (q 2)) (C := RX0) (T := TX0) (N := 10) hx hb hts hin hown hK hP 0 rfl rfl 1 (by decide) (hts (.fieldLink RX0 13 "SignRail" "spaces" "[I") (by decide +kernel)) (fun _ h9 => h9) rfl dX0_space_45 ?_
      refine lv_iload hx hb dX0_space_48 (lv_at hl 1 rfl) ?_
      refine lv_iload_n hx hb dX0_space_50 rfl (lv_at hl 5 rfl) ?_
      refine n_iast hx hb hK hP hD hS 2 0 rfl rfl (k := (i * 8 + j)) (by omega) (Nat.le_of_ble_eq_true rfl) dX0_space_51 (fun H locs hP hD hS => ?_)
      have hP : va_P D vwCl (wx cI q sh (upd sp (i * 8 + j) v) ld nm tx ds ct co kg ks) H := hP
      have hD : va_D _ (wx cI q sh (upd sp (i * 8 + j) v) ld nm tx ds ct co kg ks) := hD
      refine lv_iload hx hb dX0_space_52 (lv_at hl 0 rfl) ?_
      exact k_wiret (())  hx hb hr hlocks dX0_space_54 (trivial) rfl hP hS (Nat.le_of_ble_eq_true rfl) (Nat.le_of_ble_eq_true rfl)
    · exact absurd hv2 c_15
set_option maxHeartbeats 4000000 in
set_option maxRecDepth 100000 in
theorem c_X0_lead (l : Launch) (D : va_G) (cI : ClassId) (q : Nat → Nat) (sh sp ld nm tx ds ct : Nat → Int32) (co : Int64) (kg : Int32) (ks : Nat → Int32) (p0 x0 : Nat) (hp : p0 < 8) (hx0 : x0 < 4) (a : Nat) (ha : a ≤ 8) (hDt : va_D (fun _ => True) (wx cI q sh sp ld nm tx ds ct co kg ks)) : Met l yX0_lead wsX0_lead ({ frames := 2, cells := 0, slots := 0, locals := 41 } : Room) (k_P [.ref (q 0), .int (nI p0), .int (nI x0), .int (ix a)] (k_B D (wx cI q sh sp ld nm tx ds ct co kg ks) [(cI, .int)])) (k_WQ D (wx cI q sh sp ld nm tx ds ct co kg ks) (fun u : Unit => True) (fun u => wx cI q sh sp (upd ld (p0 * 4 + x0) (ix a)) nm tx ds ct co (nI 0) ks) (fun u => some (.int (ld (p0 * 4 + x0))))) 0 0 (k_A (wx cI q sh sp ld nm tx ds ct co kg ks)) := by
  refine k_head (cc := cX0_lead) (maxL := 6) (ret := (some .int)) [(0, .ref (q 0)), (1, .int (nI p0)), (2, .int (nI x0)), (3, .int (ix a))] (by decide) rfl (Nat.le_of_ble_eq_true rfl) rfl ?_
  intro p e s m below meth c ls hx hb hr hml hown hts hlocks hname hB hl
  have hown : s.vm.findClass RX0 = some m.cls := hown
  obtain ⟨hP, hK⟩ := hB
  have hin : ∀ w ∈ wsX00, w ∈ wsX0_lead := fun w h => List.mem_cons_of_mem _ (List.mem_append_left _ (List.mem_append_right _ h))
  have hD := k_A_D hDt
  have hS : va_S (k_A (wx cI q sh sp ld nm tx ds ct co kg ks)) s.heap s.heap [] := va_S.rf
  refine lv_iload_n hx hb dX0_lead_0 rfl (lv_at hl 1 rfl) ?_
  refine lv_iload_n hx hb dX0_lead_1 rfl (lv_at hl 2 rfl) ?_
  refine k_callS0 (As := [.int (nI p0), .int (nI x0)]) (rest := []) ⟨hx, hb, hml, hown, hts⟩ (c_X0_requireExit l p0 x0 (by omega) (by omega)) (va_cwS 2 hts gX0_lead_X0_requireExit rfl rfl rfl (by decide +kernel) ⟨Nat.le_of_ble_eq_true rfl, Nat.le_of_ble_eq_true rfl⟩) k_bl_tt (fun _ _ _ => trivial) rfl hl.1 rfl (Nat.le_of_ble_eq_true rfl) dX0_lead_2 ⟨Nat.zero_le _, Nat.zero_le _⟩ ?_
  refine lv_iload_n hx hb dX0_lead_5 rfl (lv_at hl 3 rfl) ?_
  refine lv_iconst (v := (-1)) hx hb dX0_lead_6 (by decide) ?_
  refine lv_icmp_eq (tgt := 14) hx hb dX0_lead_7 (by decide) (fun c_7 => ?_) (fun c_7 => ?_)
  · refine lv_iload_n hx hb dX0_lead_14 rfl (lv_at hl 1 rfl) ?_
    refine lv_iload_n hx hb dX0_lead_15 rfl (lv_at hl 2 rfl) ?_
    refine k_callSi (As := [.int (nI p0), .int (nI x0)]) (rest := []) ⟨hx, hb, hml, hown, hts⟩ (c_X0_wayOf l p0 x0) (va_cwS 2 hts gX0_lead_X0_wayOf rfl rfl rfl (by decide +kernel) ⟨Nat.le_of_ble_eq_true rfl, Nat.le_of_ble_eq_true rfl⟩) k_bl_tt (fun _ _ _ => trivial) rfl hl.1 rfl (Nat.le_of_ble_eq_true rfl) dX0_lead_16 ⟨Nat.zero_le _, Nat.zero_le _⟩ ?_
    refine lv_istore (lv' := [(4, .int (nI (p0 * 4 + x0))), (0, .ref (q 0)), (1, .int (nI p0)), (2, .int (nI x0)), (3, .int (ix a))]) hx hb dX0_lead_19 hl (by decide) rfl (fun ls hl => ?_)
    refine lv_aload_n hx hb dX0_lead_21 rfl (lv_at hl 1 rfl) ?_
    refine va_get (D := D) (ci := 0) (v := .ref (q 3)) (C := RX0) (T := TX0) (N := 10) hx hb hts hin hown hK hP 0 rfl rfl 2 (by decide) (hts (.fieldLink RX0 16 "SignRail" "leads" "[I") (by decide +kernel)) (fun _ h9 => h9) rfl dX0_lead_22 ?_
    refine lv_iload hx hb dX0_lead_25 (lv_at hl 0 rfl) ?_
    refine n_iald hx hb hK hP 3 0 rfl rfl (k := (p0 * 4 + x0)) (by omega) (Nat.le_of_ble_eq_true rfl) dX0_lead_27 ?_
    refine lv_istore (lv' := [(5, .int (ld (p0 * 4 + x0))), (4, .int (nI (p0 * 4 + x0))), (0, .ref (q 0)), (1, .int (nI p0)), (2, .int (nI x0)), (3, .int (ix a))]) hx hb dX0_lead_28 hl (by decide) rfl (fun ls hl => ?_)
    refine lv_aload_n hx hb dX0_lead_30 rfl (lv_at hl 2 rfl) ?_
    refine va_get (D := D) (ci := 0) (v := .ref (q 3)) (C := RX0) (T := TX0) (N := 10) hx hb hts hin hown hK hP 0 rfl rfl 2 (by decide) (hts (.fieldLink RX0 16 "SignRail" "leads" "[I") (by decide +kernel)) (fun _ h9 => h9) rfl dX0_lead_31 ?_
    refine lv_iload hx hb dX0_lead_34 (lv_at hl 1 rfl) ?_
    refine lv_iload_n hx hb dX0_lead_36 rfl (lv_at hl 5 rfl) ?_
    refine n_iast hx hb hK hP hD hS 3 0 rfl rfl (k := (p0 * 4 + x0)) (by omega) (Nat.le_of_ble_eq_true rfl) dX0_lead_37 (fun H locs hP hD hS => ?_)
    have hP : va_P D vwCl (wx cI q sh sp (upd ld (p0 * 4 + x0) (ix a)) nm tx ds ct co kg ks) H := hP
    have hD : va_D _ (wx cI q sh sp (upd ld (p0 * 4 + x0) (ix a)) nm tx ds ct co kg ks) := hD
    refine lv_aload_n hx hb dX0_lead_38 rfl (lv_at hl 2 rfl) ?_
    refine k_callVW (wr := []) (As := []) (rest := []) ⟨hx, hb, hml, hown, hts⟩ (c_X0_forgetWalks l D cI q sh sp (upd ld (p0 * 4 + x0) (ix a)) nm tx ds ct co kg ks (k_D_tt hD)) (cwV 0 hts gX0_lead_X0_forgetWalks rfl rfl rfl (by decide +kernel) ⟨Nat.le_of_ble_eq_true rfl, Nat.le_of_ble_eq_true rfl⟩) k_B_bl (k_B_of hP hK) (va_recv hK hP (ci := 0) (q0 := 0) rfl rfl) rfl hl.1 rfl (Nat.le_of_ble_eq_true rfl) dX0_lead_39 ⟨Nat.le_of_ble_eq_true rfl, Nat.le_of_ble_eq_true rfl⟩ hP hD hS [] [0, 1, 2, 3, 4, 5, 6, 7, 8] rfl rfl (fun _ => rfl) (fun u_39 H locs hu_39 hP hD hS hsz hkp => ?_)
    have hP : va_P D vwCl (wx cI q sh sp (upd ld (p0 * 4 + x0) (ix a)) nm tx ds ct co (nI 0) ks) H := hP
    have hD : va_D _ (wx cI q sh sp (upd ld (p0 * 4 + x0) (ix a)) nm tx ds ct co (nI 0) ks) := hD
    refine lv_iload hx hb dX0_lead_42 (lv_at hl 0 rfl) ?_
    exact k_wiret (())  hx hb hr hlocks dX0_lead_44 (trivial) rfl hP hS (Nat.le_of_ble_eq_true rfl) (Nat.le_of_ble_eq_true rfl)
  · have ha8 : a < 8 := by have h9 : a ≠ 8 := fun q => c_7 ((ix_m1 ha).mpr q); omega
    refine lv_iload_n hx hb dX0_lead_10 rfl (lv_at hl 3 rfl) ?_
    refine lv_as (y := nI a) (ix_lt ha8) ?_
    refine k_callS0 (As := [.int (nI a)]) (rest := []) ⟨hx, hb, hml, hown, hts⟩ (c_X0_requirePlace l a (by omega)) (va_cwS 1 hts gX0_lead_X0_requirePlace rfl rfl rfl (by decide +kernel) ⟨Nat.le_of_ble_eq_true rfl, Nat.le_of_ble_eq_true rfl⟩) k_bl_tt (fun _ _ _ => trivial) rfl hl.1 rfl (Nat.le_of_ble_eq_true rfl) dX0_lead_11 ⟨Nat.zero_le _, Nat.zero_le _⟩ ?_
    refine lv_iload_n hx hb dX0_lead_14 rfl (lv_at hl 1 rfl) ?_
    refine lv_iload_n hx hb dX0_lead_15 rfl (lv_at hl 2 rfl) ?_
    refine k_callSi (As := [.int (nI p0), .int (nI x0)]) (rest := []) ⟨hx, hb, hml, hown, hts⟩ (c_X0_wayOf l p0 x0) (va_cwS 2 hts gX0_lead_X0_wayOf rfl rfl rfl (by decide +kernel) ⟨Nat.le_of_ble_eq_true rfl, Nat.le_of_ble_eq_true rfl⟩) k_bl_tt (fun _ _ _ => trivial) rfl hl.1 rfl (Nat.le_of_ble_eq_true rfl) dX0_lead_16 ⟨Nat.zero_le _, Nat.zero_le _⟩ ?_
    refine lv_istore (lv' := [(4, .int (nI (p0 * 4 + x0))), (0, .ref (q 0)), (1, .int (nI p0)), (2, .int (nI x0)), (3, .int (ix a))]) hx hb dX0_lead_19 hl (by decide) rfl (fun ls hl => ?_)
    refine lv_aload_n hx hb dX0_lead_21 rfl (lv_at hl 1 rfl) ?_
    refine va_get (D := D) (ci := 0) (v := .ref (q 3)) (C := RX0) (T := TX0) (N := 10) hx hb hts hin hown hK hP 0 rfl rfl 2 (by decide) (hts (.fieldLink RX0 16 "SignRail" "leads" "[I") (by decide +kernel)) (fun _ h9 => h9) rfl dX0_lead_22 ?_
    refine lv_iload hx hb dX0_lead_25 (lv_at hl 0 rfl) ?_
    refine n_iald hx hb hK hP 3 0 rfl rfl (k := (p0 * 4 + x0)) (by omega) (Nat.le_of_ble_eq_true rfl) dX0_lead_27 ?_
    refine lv_istore (lv' := [(5, .int (ld (p0 * 4 + x0))), (4, .int (nI (p0 * 4 + x0))), (0, .ref (q 0)), (1, .int (nI p0)), (2, .int (nI x0)), (3, .int (ix a))]) hx hb dX0_lead_28 hl (by decide) rfl (fun ls hl => ?_)
    refine lv_aload_n hx hb dX0_lead_30 rfl (lv_at hl 2 rfl) ?_
    refine va_get (D := D) (ci := 0) (v := .ref (q 3)) (C := RX0) (T := TX0) (N := 10) hx hb hts hin hown hK hP 0 rfl rfl 2 (by decide) (hts (.fieldLink RX0 16 "SignRail" "leads" "[I") (by decide +kernel)) (fun _ h9 => h9) rfl dX0_lead_31 ?_
    refine lv_iload hx hb dX0_lead_34 (lv_at hl 1 rfl) ?_
    refine lv_iload_n hx hb dX0_lead_36 rfl (lv_at hl 5 rfl) ?_
    refine n_iast hx hb hK hP hD hS 3 0 rfl rfl (k := (p0 * 4 + x0)) (by omega) (Nat.le_of_ble_eq_true rfl) dX0_lead_37 (fun H locs hP hD hS => ?_)
    have hP : va_P D vwCl (wx cI q sh sp (upd ld (p0 * 4 + x0) (ix a)) nm tx ds ct co kg ks) H := hP
    have hD : va_D _ (wx cI q sh sp (upd ld (p0 * 4 + x0) (ix a)) nm tx ds ct co kg ks) := hD
    refine lv_aload_n hx hb dX0_lead_38 rfl (lv_at hl 2 rfl) ?_
    refine k_callVW (wr := []) (As := []) (rest := []) ⟨hx, hb, hml, hown, hts⟩ (c_X0_forgetWalks l D cI q sh sp (upd ld (p0 * 4 + x0) (ix a)) nm tx ds ct co kg ks (k_D_tt hD)) (cwV 0 hts gX0_lead_X0_forgetWalks rfl rfl rfl (by decide +kernel) ⟨Nat.le_of_ble_eq_true rfl, Nat.le_of_ble_eq_true rfl⟩) k_B_bl (k_B_of hP hK) (va_recv hK hP (ci := 0) (q0 := 0) rfl rfl) rfl hl.1 rfl (Nat.le_of_ble_eq_true rfl) dX0_lead_39 ⟨Nat.le_of_ble_eq_true rfl, Nat.le_of_ble_eq_true rfl⟩ hP hD hS [] [0, 1, 2, 3, 4, 5, 6, 7, 8] rfl rfl (fun _ => rfl) (fun u_39 H locs hu_39 hP hD hS hsz hkp => ?_)
    have hP : va_P D vwCl (wx cI q sh sp (upd ld (p0 * 4 + x0) (ix a)) nm tx ds ct co (nI 0) ks) H := hP
    have hD : va_D _ (wx cI q sh sp (upd ld (p0 * 4 + x0) (ix a)) nm tx ds ct co (nI 0) ks) := hD
    refine lv_iload hx hb dX0_lead_42 (lv_at hl 0 rfl) ?_
    exact k_wiret (())  hx hb hr hlocks dX0_lead_44 (trivial) rfl hP hS (Nat.le_of_ble_eq_true rfl) (Nat.le_of_ble_eq_true rfl)
set_option maxHeartbeats 4000000 in
set_option maxRecDepth 100000 in
theorem c_X0_name (l : Launch) (D : va_G) (cI : ClassId) (q : Nat → Nat) (sh sp ld nm tx ds ct : Nat → Int32) (co : Int64) (kg : Int32) (ks : Nat → Int32) (p0 : Nat) (hp : p0 < 8) (t k : Nat) (hk1 : 1 ≤ k) (hk5 : k ≤ 5) (htk : t < 8 ^ k) (hDt : va_D (fun _ => True) (wx cI q sh sp ld nm tx ds ct co kg ks)) : Met l yX0_name wsX0_name ({ frames := 1, cells := 0, slots := 0, locals := 21 } : Room) (k_P [.ref (q 0), .int (nI p0), .int (nI t), .int (nI k)] (k_B D (wx cI q sh sp ld nm tx ds ct co kg ks) [(cI, .int)])) (k_WQ D (wx cI q sh sp ld nm tx ds ct co kg ks) (fun u : Unit => True) (fun u => wx cI q sh sp ld (upd nm p0 (nI (32768 * k + t))) tx ds ct co (nI 0) ks) (fun u => none)) 0 0 (k_A (wx cI q sh sp ld nm tx ds ct co kg ks)) := by
  refine k_head (cc := cX0_name) (maxL := 4) (ret := none) [(0, .ref (q 0)), (1, .int (nI p0)), (2, .int (nI t)), (3, .int (nI k))] (by decide) rfl (Nat.le_of_ble_eq_true rfl) rfl ?_
  intro p e s m below meth c ls hx hb hr hml hown hts hlocks hname hB hl
  have hown : s.vm.findClass RX0 = some m.cls := hown
  obtain ⟨hP, hK⟩ := hB
  have hin : ∀ w ∈ wsX00, w ∈ wsX0_name := fun w h => List.mem_cons_of_mem _ (List.mem_append_left _ (List.mem_append_left _ (List.mem_append_right _ h)))
  have hD := k_A_D hDt
  have hS : va_S (k_A (wx cI q sh sp ld nm tx ds ct co kg ks)) s.heap s.heap [] := va_S.rf
  have hp8 := p8_le hk5
  have ht' : t < 32768 := by omega
  refine lv_iload_n hx hb dX0_name_0 rfl (lv_at hl 1 rfl) ?_
  refine k_callS0 (As := [.int (nI p0)]) (rest := []) ⟨hx, hb, hml, hown, hts⟩ (c_X0_requirePlace l p0 (by omega)) (va_cwS 1 hts gX0_name_X0_requirePlace rfl rfl rfl (by decide +kernel) ⟨Nat.le_of_ble_eq_true rfl, Nat.le_of_ble_eq_true rfl⟩) k_bl_tt (fun _ _ _ => trivial) rfl hl.1 rfl (Nat.le_of_ble_eq_true rfl) dX0_name_1 ⟨Nat.zero_le _, Nat.zero_le _⟩ ?_
  refine lv_iload_n hx hb dX0_name_4 rfl (lv_at hl 2 rfl) ?_
  refine lv_iload_n hx hb dX0_name_5 rfl (lv_at hl 3 rfl) ?_
  refine k_callS0 (As := [.int (nI t), .int (nI k)]) (rest := []) ⟨hx, hb, hml, hown, hts⟩ (c_X0_requireText l t k (by omega) (by omega) (by assumption)) (va_cwS 2 hts gX0_name_X0_requireText rfl rfl rfl (by decide +kernel) ⟨Nat.le_of_ble_eq_true rfl, Nat.le_of_ble_eq_true rfl⟩) k_bl_tt (fun _ _ _ => trivial) rfl hl.1 rfl (Nat.le_of_ble_eq_true rfl) dX0_name_6 ⟨Nat.zero_le _, Nat.zero_le _⟩ ?_
  refine lv_aload_n hx hb dX0_name_9 rfl (lv_at hl 0 rfl) ?_
  refine va_get (D := D) (ci := 0) (v := .ref (q 4)) (C := RX0) (T := TX0) (N := 10) hx hb hts hin hown hK hP 0 rfl rfl 3 (by decide) (hts (.fieldLink RX0 19 "SignRail" "names" "[I") (by decide +kernel)) (fun _ h9 => h9) rfl dX0_name_10 ?_
  refine lv_iload_n hx hb dX0_name_13 rfl (lv_at hl 1 rfl) ?_
  refine lv_iload_n hx hb dX0_name_14 rfl (lv_at hl 2 rfl) ?_
  refine lv_iload_n hx hb dX0_name_15 rfl (lv_at hl 3 rfl) ?_
  refine k_callSi (As := [.int (nI t), .int (nI k)]) (rest := [.int (nI p0), .ref (q 4)]) ⟨hx, hb, hml, hown, hts⟩ (c_X0_pack l t k (by omega) (by omega)) (va_cwS 2 hts gX0_name_X0_pack rfl rfl rfl (by decide +kernel) ⟨Nat.le_of_ble_eq_true rfl, Nat.le_of_ble_eq_true rfl⟩) k_bl_tt (fun _ _ _ => trivial) rfl hl.1 rfl (Nat.le_of_ble_eq_true rfl) dX0_name_16 ⟨Nat.zero_le _, Nat.zero_le _⟩ ?_
  refine n_iast hx hb hK hP hD hS 4 0 rfl rfl (k := p0) (by omega) (Nat.le_of_ble_eq_true rfl) dX0_name_19 (fun H locs hP hD hS => ?_)
  have hP : va_P D vwCl (wx cI q sh sp ld (upd nm p0 (nI (32768 * k + t))) tx ds ct co kg ks) H := hP
  have hD : va_D _ (wx cI q sh sp ld (upd nm p0 (nI (32768 * k + t))) tx ds ct co kg ks) := hD
  refine lv_aload_n hx hb dX0_name_20 rfl (lv_at hl 0 rfl) ?_
  refine k_callVW (wr := []) (As := []) (rest := []) ⟨hx, hb, hml, hown, hts⟩ (c_X0_forgetWalks l D cI q sh sp ld (upd nm p0 (nI (32768 * k + t))) tx ds ct co kg ks (k_D_tt hD)) (cwV 0 hts gX0_name_X0_forgetWalks rfl rfl rfl (by decide +kernel) ⟨Nat.le_of_ble_eq_true rfl, Nat.le_of_ble_eq_true rfl⟩) k_B_bl (k_B_of hP hK) (va_recv hK hP (ci := 0) (q0 := 0) rfl rfl) rfl hl.1 rfl (Nat.le_of_ble_eq_true rfl) dX0_name_21 ⟨Nat.le_of_ble_eq_true rfl, Nat.le_of_ble_eq_true rfl⟩ hP hD hS [] [0, 1, 2, 3, 4, 5, 6, 7, 8] rfl rfl (fun _ => rfl) (fun u_21 H locs hu_21 hP hD hS hsz hkp => ?_)
  have hP : va_P D vwCl (wx cI q sh sp ld (upd nm p0 (nI (32768 * k + t))) tx ds ct co (nI 0) ks) H := hP
  have hD : va_D _ (wx cI q sh sp ld (upd nm p0 (nI (32768 * k + t))) tx ds ct co (nI 0) ks) := hD
  exact k_wvret (())  hx hb hr hlocks dX0_name_24 (trivial) rfl hP hS (Nat.le_of_ble_eq_true rfl) (Nat.le_of_ble_eq_true rfl)
set_option maxHeartbeats 4000000 in
set_option maxRecDepth 100000 in
theorem c_X0_textWidth (l : Launch) (D : va_G) (cI : ClassId) (q : Nat → Nat) (sh sp ld nm tx ds ct : Nat → Int32) (co : Int64) (kg : Int32) (ks : Nat → Int32) (t k : Nat) (hk1 : 1 ≤ k) (hk5 : k ≤ 5) (htk : t < 8 ^ k) : k_M l yX0_textWidth wsX0_textWidth ({ frames := 5, cells := 0, slots := 0, locals := 119 } : Room) [.ref (q 0), .int (nI t), .int (nI k)] (k_B D (wx cI q sh sp ld nm tx ds ct co kg ks) [(cI, .int)]) (some (.int (pwC (wdS sh) sp t k))) := by
  refine k_head (cc := cX0_textWidth) (maxL := 3) (ret := some .int) [(0, .ref (q 0)), (1, .int (nI t)), (2, .int (nI k))] (by decide) rfl (Nat.le_of_ble_eq_true rfl) rfl ?_
  intro p e s m below meth c ls hx hb hr hml hown hts hlocks hname hB hl
  have hown : s.vm.findClass RX0 = some m.cls := hown
  obtain ⟨hP, hK⟩ := hB
  have hin : ∀ w ∈ wsX00, w ∈ wsX0_textWidth := fun w h => List.mem_cons_of_mem _ (List.mem_append_left _ (List.mem_append_right _ h))
  have hp8 := p8_le hk5
  have ht' : t < 32768 := by omega
  refine lv_iload_n hx hb dX0_textWidth_0 rfl (lv_at hl 1 rfl) ?_
  refine lv_iload_n hx hb dX0_textWidth_1 rfl (lv_at hl 2 rfl) ?_
  refine k_callS0 (As := [.int (nI t), .int (nI k)]) (rest := []) ⟨hx, hb, hml, hown, hts⟩ (c_X0_requireText l t k (by omega) (by omega) (by assumption)) (va_cwS 2 hts gX0_textWidth_X0_requireText rfl rfl rfl (by decide +kernel) ⟨Nat.le_of_ble_eq_true rfl, Nat.le_of_ble_eq_true rfl⟩) k_bl_tt (fun _ _ _ => trivial) rfl hl.1 rfl (Nat.le_of_ble_eq_true rfl) dX0_textWidth_2 ⟨Nat.zero_le _, Nat.zero_le _⟩ ?_
  refine lv_aload_n hx hb dX0_textWidth_5 rfl (lv_at hl 0 rfl) ?_
  refine lv_iload_n hx hb dX0_textWidth_6 rfl (lv_at hl 1 rfl) ?_
  refine lv_iload_n hx hb dX0_textWidth_7 rfl (lv_at hl 2 rfl) ?_
  refine k_callSi (As := [.int (nI t), .int (nI k)]) (rest := [.ref (q 0)]) ⟨hx, hb, hml, hown, hts⟩ (c_X0_pack l t k (by omega) (by omega)) (va_cwS 2 hts gX0_textWidth_X0_pack rfl rfl rfl (by decide +kernel) ⟨Nat.le_of_ble_eq_true rfl, Nat.le_of_ble_eq_true rfl⟩) k_bl_tt (fun _ _ _ => trivial) rfl hl.1 rfl (Nat.le_of_ble_eq_true rfl) dX0_textWidth_8 ⟨Nat.zero_le _, Nat.zero_le _⟩ ?_
  refine k_callVi (As := [.int (nI (32768 * k + t))]) (rest := []) ⟨hx, hb, hml, hown, hts⟩ (c_X0_packedWidth l D cI q sh sp ld nm tx ds ct co kg ks t k (by omega) (by omega)) (cwV 1 hts gX0_textWidth_X0_packedWidth rfl rfl rfl (by decide +kernel) ⟨Nat.le_of_ble_eq_true rfl, Nat.le_of_ble_eq_true rfl⟩) k_B_bl (k_B_of hP hK) (va_recv hK hP (ci := 0) (q0 := 0) rfl rfl) rfl hl.1 rfl (Nat.le_of_ble_eq_true rfl) dX0_textWidth_11 ⟨Nat.zero_le _, Nat.zero_le _⟩ ?_
  exact k_iret hx hb hr hlocks dX0_textWidth_14 (rfl)
set_option maxHeartbeats 4000000 in
set_option maxRecDepth 100000 in
theorem c_X0_cut (l : Launch) (D : va_G) (cI : ClassId) (q : Nat → Nat) (sh sp ld nm tx ds ct : Nat → Int32) (co : Int64) (kg : Int32) (ks : Nat → Int32) (p0 x0 : Nat) (hp : p0 < 8) (hx0 : x0 < 4) (t k : Nat) (hk1 : 1 ≤ k) (hk5 : k ≤ 5) (htk : t < 8 ^ k) (d0 : Nat) (hd : d0 < 10) (hpl : plF (pwC (wdS sh) sp t k) ≠ -1) (hDt : va_D (fun _ => True) (wx cI q sh sp ld nm tx ds ct co kg ks)) : Met l yX0_cut wsX0_cut ({ frames := 6, cells := 0, slots := 0, locals := 141 } : Room) (k_P [.ref (q 0), .int (nI p0), .int (nI x0), .int (nI t), .int (nI k), .int (nI d0)] (k_B D (wx cI q sh sp ld nm tx ds ct co kg ks) [(cI, .int)])) (k_WQ D (wx cI q sh sp ld nm tx ds ct co kg ks) (fun u : Unit => True) (fun u => wx cI q sh sp ld nm (upd tx (p0 * 4 + x0) (nI (32768 * k + t))) (upd ds (p0 * 4 + x0) (nI d0)) (engF sh ct (p0 * 4 + x0) t k) (co + (plF (pwC (wdS sh) sp t k)).toInt64) (nI 0) ks) (fun u => some (.int (plF (pwC (wdS sh) sp t k))))) 0 0 (k_A (wx cI q sh sp ld nm tx ds ct co kg ks)) := by
  refine k_head (cc := cX0_cut) (maxL := 9) (ret := (some .int)) [(0, .ref (q 0)), (1, .int (nI p0)), (2, .int (nI x0)), (3, .int (nI t)), (4, .int (nI k)), (5, .int (nI d0))] (by decide) rfl (Nat.le_of_ble_eq_true rfl) rfl ?_
  intro p e s m below meth c ls hx hb hr hml hown hts hlocks hname hB hl
  have hown : s.vm.findClass RX0 = some m.cls := hown
  obtain ⟨hP, hK⟩ := hB
  have hin : ∀ w ∈ wsX00, w ∈ wsX0_cut := fun w h => List.mem_cons_of_mem _ (List.mem_append_left _ (List.mem_append_left _ (List.mem_append_left _ (List.mem_append_right _ h))))
  have hD := k_A_D hDt
  have hS : va_S (k_A (wx cI q sh sp ld nm tx ds ct co kg ks)) s.heap s.heap [] := va_S.rf
  have hp8 := p8_le hk5
  have ht' : t < 32768 := by omega
  refine lv_iload_n hx hb dX0_cut_0 rfl (lv_at hl 1 rfl) ?_
  refine lv_iload_n hx hb dX0_cut_1 rfl (lv_at hl 2 rfl) ?_
  refine k_callS0 (As := [.int (nI p0), .int (nI x0)]) (rest := []) ⟨hx, hb, hml, hown, hts⟩ (c_X0_requireExit l p0 x0 (by omega) (by omega)) (va_cwS 2 hts gX0_cut_X0_requireExit rfl rfl rfl (by decide +kernel) ⟨Nat.le_of_ble_eq_true rfl, Nat.le_of_ble_eq_true rfl⟩) k_bl_tt (fun _ _ _ => trivial) rfl hl.1 rfl (Nat.le_of_ble_eq_true rfl) dX0_cut_2 ⟨Nat.zero_le _, Nat.zero_le _⟩ ?_
  refine lv_iload_n hx hb dX0_cut_5 rfl (lv_at hl 3 rfl) ?_
  refine lv_iload hx hb dX0_cut_6 (lv_at hl 4 rfl) ?_
  refine k_callS0 (As := [.int (nI t), .int (nI k)]) (rest := []) ⟨hx, hb, hml, hown, hts⟩ (c_X0_requireText l t k (by omega) (by omega) (by assumption)) (va_cwS 2 hts gX0_cut_X0_requireText rfl rfl rfl (by decide +kernel) ⟨Nat.le_of_ble_eq_true rfl, Nat.le_of_ble_eq_true rfl⟩) k_bl_tt (fun _ _ _ => trivial) rfl hl.1 rfl (Nat.le_of_ble_eq_true rfl) dX0_cut_8 ⟨Nat.zero_le _, Nat.zero_le _⟩ ?_
  refine lv_iload hx hb dX0_cut_11 (lv_at hl 5 rfl) ?_
  refine n_if_lt (tgt := 23) hx hb dX0_cut_13 (by decide) (by omega) ?_
  refine lv_iload hx hb dX0_cut_16 (lv_at hl 5 rfl) ?_
  refine lv_bipush (v := nI 9) hx hb dX0_cut_18 (by decide) ?_
  refine n_icmp_le (tgt := 33) hx hb dX0_cut_20 (by decide) (by omega) (by omega) (fun c_20 => ?_) (fun c_20 => ?_)
  · refine lv_iload_n hx hb dX0_cut_33 rfl (lv_at hl 3 rfl) ?_
    refine lv_iload hx hb dX0_cut_34 (lv_at hl 4 rfl) ?_
    refine k_callSi (As := [.int (nI t), .int (nI k)]) (rest := []) ⟨hx, hb, hml, hown, hts⟩ (c_X0_pack l t k (by omega) (by omega)) (va_cwS 2 hts gX0_cut_X0_pack rfl rfl rfl (by decide +kernel) ⟨Nat.le_of_ble_eq_true rfl, Nat.le_of_ble_eq_true rfl⟩) k_bl_tt (fun _ _ _ => trivial) rfl hl.1 rfl (Nat.le_of_ble_eq_true rfl) dX0_cut_36 ⟨Nat.zero_le _, Nat.zero_le _⟩ ?_
    refine lv_istore (lv' := [(6, .int (nI (32768 * k + t))), (0, .ref (q 0)), (1, .int (nI p0)), (2, .int (nI x0)), (3, .int (nI t)), (4, .int (nI k)), (5, .int (nI d0))]) hx hb dX0_cut_39 hl (by decide) rfl (fun ls hl => ?_)
    refine lv_aload_n hx hb dX0_cut_41 rfl (lv_at hl 1 rfl) ?_
    refine lv_iload hx hb dX0_cut_42 (lv_at hl 0 rfl) ?_
    refine k_callVi (As := [.int (nI (32768 * k + t))]) (rest := []) ⟨hx, hb, hml, hown, hts⟩ (c_X0_plateFor l D cI q sh sp ld nm tx ds ct co kg ks t k (by omega) (by omega)) (cwV 1 hts gX0_cut_X0_plateFor rfl rfl rfl (by decide +kernel) ⟨Nat.le_of_ble_eq_true rfl, Nat.le_of_ble_eq_true rfl⟩) k_B_bl (k_B_of hP hK) (va_recv hK hP (ci := 0) (q0 := 0) rfl rfl) rfl hl.1 rfl (Nat.le_of_ble_eq_true rfl) dX0_cut_44 ⟨Nat.zero_le _, Nat.zero_le _⟩ ?_
    refine lv_istore (lv' := [(7, .int (plF (pwC (wdS sh) sp t k))), (6, .int (nI (32768 * k + t))), (0, .ref (q 0)), (1, .int (nI p0)), (2, .int (nI x0)), (3, .int (nI t)), (4, .int (nI k)), (5, .int (nI d0))]) hx hb dX0_cut_47 hl (by decide) rfl (fun ls hl => ?_)
    refine lv_iload hx hb dX0_cut_49 (lv_at hl 0 rfl) ?_
    refine lv_iconst (v := (-1)) hx hb dX0_cut_51 (by decide) ?_
    refine lv_icmp_ne (tgt := 65) hx hb dX0_cut_52 (by decide) (fun c_52 => ?_) (fun c_52 => ?_)
    · refine lv_iload_n hx hb dX0_cut_65 rfl (lv_at hl 3 rfl) ?_
      refine lv_iload_n hx hb dX0_cut_66 rfl (lv_at hl 4 rfl) ?_
      refine k_callSi (As := [.int (nI p0), .int (nI x0)]) (rest := []) ⟨hx, hb, hml, hown, hts⟩ (c_X0_wayOf l p0 x0) (va_cwS 2 hts gX0_cut_X0_wayOf rfl rfl rfl (by decide +kernel) ⟨Nat.le_of_ble_eq_true rfl, Nat.le_of_ble_eq_true rfl⟩) k_bl_tt (fun _ _ _ => trivial) rfl hl.1 rfl (Nat.le_of_ble_eq_true rfl) dX0_cut_67 ⟨Nat.zero_le _, Nat.zero_le _⟩ ?_
      refine lv_istore (lv' := [(8, .int (nI (p0 * 4 + x0))), (7, .int (plF (pwC (wdS sh) sp t k))), (6, .int (nI (32768 * k + t))), (0, .ref (q 0)), (1, .int (nI p0)), (2, .int (nI x0)), (3, .int (nI t)), (4, .int (nI k)), (5, .int (nI d0))]) hx hb dX0_cut_70 hl (by decide) rfl (fun ls hl => ?_)
      refine lv_aload_n hx hb dX0_cut_72 rfl (lv_at hl 3 rfl) ?_
      refine va_get (D := D) (ci := 0) (v := .ref (q 5)) (C := RX0) (T := TX0) (N := 10) hx hb hts hin hown hK hP 0 rfl rfl 4 (by decide) (hts (.fieldLink RX0 22 "SignRail" "signTexts" "[I") (by decide +kernel)) (fun _ h9 => h9) rfl dX0_cut_73 ?_
      refine lv_iload hx hb dX0_cut_76 (lv_at hl 0 rfl) ?_
      refine lv_iload hx hb dX0_cut_78 (lv_at hl 2 rfl) ?_
      refine n_iast hx hb hK hP hD hS 5 0 rfl rfl (k := (p0 * 4 + x0)) (by omega) (Nat.le_of_ble_eq_true rfl) dX0_cut_80 (fun H locs hP hD hS => ?_)
      have hP : va_P D vwCl (wx cI q sh sp ld nm (upd tx (p0 * 4 + x0) (nI (32768 * k + t))) ds ct co kg ks) H := hP
      have hD : va_D _ (wx cI q sh sp ld nm (upd tx (p0 * 4 + x0) (nI (32768 * k + t))) ds ct co kg ks) := hD
      refine lv_aload_n hx hb dX0_cut_81 rfl (lv_at hl 3 rfl) ?_
      refine va_get (D := D) (ci := 0) (v := .ref (q 6)) (C := RX0) (T := TX0) (N := 10) hx hb hts hin hown hK hP 0 rfl rfl 5 (by decide) (hts (.fieldLink RX0 25 "SignRail" "signDistances" "[I") (by decide +kernel)) (fun _ h9 => h9) rfl dX0_cut_82 ?_
      refine lv_iload hx hb dX0_cut_85 (lv_at hl 0 rfl) ?_
      refine lv_iload hx hb dX0_cut_87 (lv_at hl 8 rfl) ?_
      refine n_iast hx hb hK hP hD hS 6 0 rfl rfl (k := (p0 * 4 + x0)) (by omega) (Nat.le_of_ble_eq_true rfl) dX0_cut_89 (fun H locs hP hD hS => ?_)
      have hP : va_P D vwCl (wx cI q sh sp ld nm (upd tx (p0 * 4 + x0) (nI (32768 * k + t))) (upd ds (p0 * 4 + x0) (nI d0)) ct co kg ks) H := hP
      have hD : va_D _ (wx cI q sh sp ld nm (upd tx (p0 * 4 + x0) (nI (32768 * k + t))) (upd ds (p0 * 4 + x0) (nI d0)) ct co kg ks) := hD
      refine lv_aload_n hx hb dX0_cut_90 rfl (lv_at hl 3 rfl) ?_
      refine lv_iload hx hb dX0_cut_91 (lv_at hl 0 rfl) ?_
      refine lv_iload hx hb dX0_cut_93 (lv_at hl 1 rfl) ?_
      refine k_callVW (wr := []) (As := [.int (nI (p0 * 4 + x0)), .int (plF (pwC (wdS sh) sp t k))]) (rest := []) ⟨hx, hb, hml, hown, hts⟩ (c_X0_engrave l D cI q sh sp ld nm (upd tx (p0 * 4 + x0) (nI (32768 * k + t))) (upd ds (p0 * 4 + x0) (nI d0)) ct co kg ks (p0 * 4 + x0) t k (by omega) (by omega) hk5 pk_us (plF (pwC (wdS sh) sp t k)) (k_D_tt hD)) (cwV 2 hts gX0_cut_X0_engrave rfl rfl rfl (by decide +kernel) ⟨Nat.le_of_ble_eq_true rfl, Nat.le_of_ble_eq_true rfl⟩) k_B_bl (k_B_of hP hK) (va_recv hK hP (ci := 0) (q0 := 0) rfl rfl) rfl hl.1 rfl (Nat.le_of_ble_eq_true rfl) dX0_cut_95 ⟨Nat.le_of_ble_eq_true rfl, Nat.le_of_ble_eq_true rfl⟩ hP hD hS [] [0, 1, 2, 3, 4, 5, 6, 7, 8] rfl rfl (fun _ => rfl) (fun u_95 H locs hu_95 hP hD hS hsz hkp => ?_)
      have hP : va_P D vwCl (wx cI q sh sp ld nm (upd tx (p0 * 4 + x0) (nI (32768 * k + t))) (upd ds (p0 * 4 + x0) (nI d0)) (engF sh ct (p0 * 4 + x0) t k) (co + (plF (pwC (wdS sh) sp t k)).toInt64) kg ks) H := hP
      have hD : va_D _ (wx cI q sh sp ld nm (upd tx (p0 * 4 + x0) (nI (32768 * k + t))) (upd ds (p0 * 4 + x0) (nI d0)) (engF sh ct (p0 * 4 + x0) t k) (co + (plF (pwC (wdS sh) sp t k)).toInt64) kg ks) := hD
      refine lv_aload_n hx hb dX0_cut_98 rfl (lv_at hl 3 rfl) ?_
      refine k_callVW (wr := []) (As := []) (rest := []) ⟨hx, hb, hml, hown, hts⟩ (c_X0_forgetWalks l D cI q sh sp ld nm (upd tx (p0 * 4 + x0) (nI (32768 * k + t))) (upd ds (p0 * 4 + x0) (nI d0)) (engF sh ct (p0 * 4 + x0) t k) (co + (plF (pwC (wdS sh) sp t k)).toInt64) kg ks (k_D_tt hD)) (cwV 0 hts gX0_cut_X0_forgetWalks rfl rfl rfl (by decide +kernel) ⟨Nat.le_of_ble_eq_true rfl, Nat.le_of_ble_eq_true rfl⟩) k_B_bl (k_B_of hP hK) (va_recv hK hP (ci := 0) (q0 := 0) rfl rfl) rfl hl.1 rfl (Nat.le_of_ble_eq_true rfl) dX0_cut_99 ⟨Nat.le_of_ble_eq_true rfl, Nat.le_of_ble_eq_true rfl⟩ hP hD hS [] [0, 1, 2, 3, 4, 5, 6, 7, 8] rfl rfl (fun _ => rfl) (fun u_99 H locs hu_99 hP hD hS hsz hkp => ?_)
      have hP : va_P D vwCl (wx cI q sh sp ld nm (upd tx (p0 * 4 + x0) (nI (32768 * k + t))) (upd ds (p0 * 4 + x0) (nI d0)) (engF sh ct (p0 * 4 + x0) t k) (co + (plF (pwC (wdS sh) sp t k)).toInt64) (nI 0) ks) H := hP
      have hD : va_D _ (wx cI q sh sp ld nm (upd tx (p0 * 4 + x0) (nI (32768 * k + t))) (upd ds (p0 * 4 + x0) (nI d0)) (engF sh ct (p0 * 4 + x0) t k) (co + (plF (pwC (wdS sh) sp t k)).toInt64) (nI 0) ks) := hD
      refine lv_iload hx hb dX0_cut_102 (lv_at hl 1 rfl) ?_
      exact k_wiret (())  hx hb hr hlocks dX0_cut_104 (trivial) rfl hP hS (Nat.le_of_ble_eq_true rfl) (Nat.le_of_ble_eq_true rfl)
    · exact absurd c_52 hpl
  · exact absurd hd (by omega)
set_option maxHeartbeats 4000000 in
set_option maxRecDepth 100000 in
theorem c_X0_remove (l : Launch) (D : va_G) (cI : ClassId) (q : Nat → Nat) (sh sp ld nm tx ds ct : Nat → Int32) (co : Int64) (kg : Int32) (ks : Nat → Int32) (p0 x0 : Nat) (hp : p0 < 8) (hx0 : x0 < 4) (hDt : va_D (fun _ => True) (wx cI q sh sp ld nm tx ds ct co kg ks)) : Met l yX0_remove wsX0_remove ({ frames := 2, cells := 0, slots := 0, locals := 41 } : Room) (k_P [.ref (q 0), .int (nI p0), .int (nI x0)] (k_B D (wx cI q sh sp ld nm tx ds ct co kg ks) [(cI, .int)])) (k_WQ D (wx cI q sh sp ld nm tx ds ct co kg ks) (fun u : Unit => True) (fun u => wx cI q sh sp ld nm (upd tx (p0 * 4 + x0) (nI 0)) ds ct co (nI 0) ks) (fun u => some (.int (bI (!decide (tx (p0 * 4 + x0) = 0)))))) 0 0 (k_A (wx cI q sh sp ld nm tx ds ct co kg ks)) := by
  refine k_head (cc := cX0_remove) (maxL := 5) (ret := (some .boolean)) [(0, .ref (q 0)), (1, .int (nI p0)), (2, .int (nI x0))] (by decide) rfl (Nat.le_of_ble_eq_true rfl) rfl ?_
  intro p e s m below meth c ls hx hb hr hml hown hts hlocks hname hB hl
  have hown : s.vm.findClass RX0 = some m.cls := hown
  obtain ⟨hP, hK⟩ := hB
  have hin : ∀ w ∈ wsX00, w ∈ wsX0_remove := fun w h => List.mem_cons_of_mem _ (List.mem_append_left _ (List.mem_append_right _ h))
  have hD := k_A_D hDt
  have hS : va_S (k_A (wx cI q sh sp ld nm tx ds ct co kg ks)) s.heap s.heap [] := va_S.rf
  refine lv_iload_n hx hb dX0_remove_0 rfl (lv_at hl 1 rfl) ?_
  refine lv_iload_n hx hb dX0_remove_1 rfl (lv_at hl 2 rfl) ?_
  refine k_callS0 (As := [.int (nI p0), .int (nI x0)]) (rest := []) ⟨hx, hb, hml, hown, hts⟩ (c_X0_requireExit l p0 x0 (by omega) (by omega)) (va_cwS 2 hts gX0_remove_X0_requireExit rfl rfl rfl (by decide +kernel) ⟨Nat.le_of_ble_eq_true rfl, Nat.le_of_ble_eq_true rfl⟩) k_bl_tt (fun _ _ _ => trivial) rfl hl.1 rfl (Nat.le_of_ble_eq_true rfl) dX0_remove_2 ⟨Nat.zero_le _, Nat.zero_le _⟩ ?_
  refine lv_iload_n hx hb dX0_remove_5 rfl (lv_at hl 1 rfl) ?_
  refine lv_iload_n hx hb dX0_remove_6 rfl (lv_at hl 2 rfl) ?_
  refine k_callSi (As := [.int (nI p0), .int (nI x0)]) (rest := []) ⟨hx, hb, hml, hown, hts⟩ (c_X0_wayOf l p0 x0) (va_cwS 2 hts gX0_remove_X0_wayOf rfl rfl rfl (by decide +kernel) ⟨Nat.le_of_ble_eq_true rfl, Nat.le_of_ble_eq_true rfl⟩) k_bl_tt (fun _ _ _ => trivial) rfl hl.1 rfl (Nat.le_of_ble_eq_true rfl) dX0_remove_7 ⟨Nat.zero_le _, Nat.zero_le _⟩ ?_
  refine lv_istore_n (lv' := [(3, .int (nI (p0 * 4 + x0))), (0, .ref (q 0)), (1, .int (nI p0)), (2, .int (nI x0))]) hx hb dX0_remove_10 rfl hl (by decide) rfl (fun ls hl => ?_)
  refine lv_aload_n hx hb dX0_remove_11 rfl (lv_at hl 1 rfl) ?_
  refine va_get (D := D) (ci := 0) (v := .ref (q 5)) (C := RX0) (T := TX0) (N := 10) hx hb hts hin hown hK hP 0 rfl rfl 4 (by decide) (hts (.fieldLink RX0 22 "SignRail" "signTexts" "[I") (by decide +kernel)) (fun _ h9 => h9) rfl dX0_remove_12 ?_
  refine lv_iload_n hx hb dX0_remove_15 rfl (lv_at hl 0 rfl) ?_
  refine n_iald hx hb hK hP 5 0 rfl rfl (k := (p0 * 4 + x0)) (by omega) (Nat.le_of_ble_eq_true rfl) dX0_remove_16 ?_
  refine lv_if_eq (tgt := 24) hx hb dX0_remove_17 (by decide) (fun c_17 => ?_) (fun c_17 => ?_)
  · refine lv_iconst (v := nI 0) hx hb dX0_remove_24 (by decide) ?_
    refine lv_as (y := bI (!decide (tx (p0 * 4 + x0) = 0))) (by rw [decide_eq_true c_17]; rfl) ?_
    refine lv_istore (lv' := [(4, .int (bI (!decide (tx (p0 * 4 + x0) = 0)))), (3, .int (nI (p0 * 4 + x0))), (0, .ref (q 0)), (1, .int (nI p0)), (2, .int (nI x0))]) hx hb dX0_remove_25 hl (by decide) rfl (fun ls hl => ?_)
    refine lv_aload_n hx hb dX0_remove_27 rfl (lv_at hl 2 rfl) ?_
    refine va_get (D := D) (ci := 0) (v := .ref (q 5)) (C := RX0) (T := TX0) (N := 10) hx hb hts hin hown hK hP 0 rfl rfl 4 (by decide) (hts (.fieldLink RX0 22 "SignRail" "signTexts" "[I") (by decide +kernel)) (fun _ h9 => h9) rfl dX0_remove_28 ?_
    refine lv_iload_n hx hb dX0_remove_31 rfl (lv_at hl 1 rfl) ?_
    refine lv_iconst (v := nI 0) hx hb dX0_remove_32 (by decide) ?_
    refine n_iast hx hb hK hP hD hS 5 0 rfl rfl (k := (p0 * 4 + x0)) (by omega) (Nat.le_of_ble_eq_true rfl) dX0_remove_33 (fun H locs hP hD hS => ?_)
    have hP : va_P D vwCl (wx cI q sh sp ld nm (upd tx (p0 * 4 + x0) (nI 0)) ds ct co kg ks) H := hP
    have hD : va_D _ (wx cI q sh sp ld nm (upd tx (p0 * 4 + x0) (nI 0)) ds ct co kg ks) := hD
    refine lv_aload_n hx hb dX0_remove_34 rfl (lv_at hl 2 rfl) ?_
    refine k_callVW (wr := []) (As := []) (rest := []) ⟨hx, hb, hml, hown, hts⟩ (c_X0_forgetWalks l D cI q sh sp ld nm (upd tx (p0 * 4 + x0) (nI 0)) ds ct co kg ks (k_D_tt hD)) (cwV 0 hts gX0_remove_X0_forgetWalks rfl rfl rfl (by decide +kernel) ⟨Nat.le_of_ble_eq_true rfl, Nat.le_of_ble_eq_true rfl⟩) k_B_bl (k_B_of hP hK) (va_recv hK hP (ci := 0) (q0 := 0) rfl rfl) rfl hl.1 rfl (Nat.le_of_ble_eq_true rfl) dX0_remove_35 ⟨Nat.le_of_ble_eq_true rfl, Nat.le_of_ble_eq_true rfl⟩ hP hD hS [] [0, 1, 2, 3, 4, 5, 6, 7, 8] rfl rfl (fun _ => rfl) (fun u_35 H locs hu_35 hP hD hS hsz hkp => ?_)
    have hP : va_P D vwCl (wx cI q sh sp ld nm (upd tx (p0 * 4 + x0) (nI 0)) ds ct co (nI 0) ks) H := hP
    have hD : va_D _ (wx cI q sh sp ld nm (upd tx (p0 * 4 + x0) (nI 0)) ds ct co (nI 0) ks) := hD
    refine lv_iload hx hb dX0_remove_38 (lv_at hl 0 rfl) ?_
    exact k_wzret (()) (!decide (tx (p0 * 4 + x0) = 0)) hx hb hr hlocks dX0_remove_40 (rfl) (trivial) rfl hP hS (Nat.le_of_ble_eq_true rfl) (Nat.le_of_ble_eq_true rfl)
  · refine lv_iconst (v := nI 1) hx hb dX0_remove_20 (by decide) ?_
    refine lv_as (y := bI (!decide (tx (p0 * 4 + x0) = 0))) (by rw [decide_eq_false c_17]; rfl) ?_
    refine lv_goto (tgt := 25) hx hb dX0_remove_21 (by decide) ?_
    refine lv_istore (lv' := [(4, .int (bI (!decide (tx (p0 * 4 + x0) = 0)))), (3, .int (nI (p0 * 4 + x0))), (0, .ref (q 0)), (1, .int (nI p0)), (2, .int (nI x0))]) hx hb dX0_remove_25 hl (by decide) rfl (fun ls hl => ?_)
    refine lv_aload_n hx hb dX0_remove_27 rfl (lv_at hl 2 rfl) ?_
    refine va_get (D := D) (ci := 0) (v := .ref (q 5)) (C := RX0) (T := TX0) (N := 10) hx hb hts hin hown hK hP 0 rfl rfl 4 (by decide) (hts (.fieldLink RX0 22 "SignRail" "signTexts" "[I") (by decide +kernel)) (fun _ h9 => h9) rfl dX0_remove_28 ?_
    refine lv_iload_n hx hb dX0_remove_31 rfl (lv_at hl 1 rfl) ?_
    refine lv_iconst (v := nI 0) hx hb dX0_remove_32 (by decide) ?_
    refine n_iast hx hb hK hP hD hS 5 0 rfl rfl (k := (p0 * 4 + x0)) (by omega) (Nat.le_of_ble_eq_true rfl) dX0_remove_33 (fun H locs hP hD hS => ?_)
    have hP : va_P D vwCl (wx cI q sh sp ld nm (upd tx (p0 * 4 + x0) (nI 0)) ds ct co kg ks) H := hP
    have hD : va_D _ (wx cI q sh sp ld nm (upd tx (p0 * 4 + x0) (nI 0)) ds ct co kg ks) := hD
    refine lv_aload_n hx hb dX0_remove_34 rfl (lv_at hl 2 rfl) ?_
    refine k_callVW (wr := []) (As := []) (rest := []) ⟨hx, hb, hml, hown, hts⟩ (c_X0_forgetWalks l D cI q sh sp ld nm (upd tx (p0 * 4 + x0) (nI 0)) ds ct co kg ks (k_D_tt hD)) (cwV 0 hts gX0_remove_X0_forgetWalks rfl rfl rfl (by decide +kernel) ⟨Nat.le_of_ble_eq_true rfl, Nat.le_of_ble_eq_true rfl⟩) k_B_bl (k_B_of hP hK) (va_recv hK hP (ci := 0) (q0 := 0) rfl rfl) rfl hl.1 rfl (Nat.le_of_ble_eq_true rfl) dX0_remove_35 ⟨Nat.le_of_ble_eq_true rfl, Nat.le_of_ble_eq_true rfl⟩ hP hD hS [] [0, 1, 2, 3, 4, 5, 6, 7, 8] rfl rfl (fun _ => rfl) (fun u_35 H locs hu_35 hP hD hS hsz hkp => ?_)
    have hP : va_P D vwCl (wx cI q sh sp ld nm (upd tx (p0 * 4 + x0) (nI 0)) ds ct co (nI 0) ks) H := hP
    have hD : va_D _ (wx cI q sh sp ld nm (upd tx (p0 * 4 + x0) (nI 0)) ds ct co (nI 0) ks) := hD
    refine lv_iload hx hb dX0_remove_38 (lv_at hl 0 rfl) ?_
    exact k_wzret (()) (!decide (tx (p0 * 4 + x0) = 0)) hx hb hr hlocks dX0_remove_40 (rfl) (trivial) rfl hP hS (Nat.le_of_ble_eq_true rfl) (Nat.le_of_ble_eq_true rfl)
set_option maxHeartbeats 4000000 in
set_option maxRecDepth 100000 in
theorem c_X0_isOld (l : Launch) (D : va_G) (cI : ClassId) (q : Nat → Nat) (sh sp ld nm tx ds ct : Nat → Int32) (co : Int64) (kg : Int32) (ks : Nat → Int32) (p0 x0 : Nat) (hp : p0 < 8) (hx0 : x0 < 4) (T K : Nat → Nat) (hG : ∀ w, w < 32 → T w < 32768 ∧ K w ≤ 5 ∧ tx w = nI (32768 * K w + T w) ∧ ∀ j, j < K w → S25 (ct (w * 5 + j))) : k_M l yX0_isOld wsX0_isOld ({ frames := 2, cells := 0, slots := 0, locals := 44 } : Room) [.ref (q 0), .int (nI p0), .int (nI x0)] (k_B D (wx cI q sh sp ld nm tx ds ct co kg ks) [(cI, .int)]) (some (.int (bI (anyB (oldC sh ct (p0 * 4 + x0) (T (p0 * 4 + x0))) (K (p0 * 4 + x0)))))) := by
  refine k_head (cc := cX0_isOld) (maxL := 3) (ret := some .boolean) [(0, .ref (q 0)), (1, .int (nI p0)), (2, .int (nI x0))] (by decide) rfl (Nat.le_of_ble_eq_true rfl) rfl ?_
  intro p e s m below meth c ls hx hb hr hml hown hts hlocks hname hB hl
  have hown : s.vm.findClass RX0 = some m.cls := hown
  obtain ⟨hP, hK⟩ := hB
  have hin : ∀ w ∈ wsX00, w ∈ wsX0_isOld := fun w h => List.mem_cons_of_mem _ (List.mem_append_left _ (List.mem_append_right _ h))
  refine lv_iload_n hx hb dX0_isOld_0 rfl (lv_at hl 1 rfl) ?_
  refine lv_iload_n hx hb dX0_isOld_1 rfl (lv_at hl 2 rfl) ?_
  refine k_callS0 (As := [.int (nI p0), .int (nI x0)]) (rest := []) ⟨hx, hb, hml, hown, hts⟩ (c_X0_requireExit l p0 x0 (by omega) (by omega)) (va_cwS 2 hts gX0_isOld_X0_requireExit rfl rfl rfl (by decide +kernel) ⟨Nat.le_of_ble_eq_true rfl, Nat.le_of_ble_eq_true rfl⟩) k_bl_tt (fun _ _ _ => trivial) rfl hl.1 rfl (Nat.le_of_ble_eq_true rfl) dX0_isOld_2 ⟨Nat.zero_le _, Nat.zero_le _⟩ ?_
  refine lv_aload_n hx hb dX0_isOld_5 rfl (lv_at hl 0 rfl) ?_
  refine lv_iload_n hx hb dX0_isOld_6 rfl (lv_at hl 1 rfl) ?_
  refine lv_iload_n hx hb dX0_isOld_7 rfl (lv_at hl 2 rfl) ?_
  refine k_callSi (As := [.int (nI p0), .int (nI x0)]) (rest := [.ref (q 0)]) ⟨hx, hb, hml, hown, hts⟩ (c_X0_wayOf l p0 x0) (va_cwS 2 hts gX0_isOld_X0_wayOf rfl rfl rfl (by decide +kernel) ⟨Nat.le_of_ble_eq_true rfl, Nat.le_of_ble_eq_true rfl⟩) k_bl_tt (fun _ _ _ => trivial) rfl hl.1 rfl (Nat.le_of_ble_eq_true rfl) dX0_isOld_8 ⟨Nat.zero_le _, Nat.zero_le _⟩ ?_
  refine k_callVi (As := [.int (nI (p0 * 4 + x0))]) (rest := []) ⟨hx, hb, hml, hown, hts⟩ (c_X0_isOutdated l D cI q sh sp ld nm tx ds ct co kg ks (p0 * 4 + x0) (T (p0 * 4 + x0)) (K (p0 * 4 + x0)) (by omega) (hG _ (by omega)).1 (hG _ (by omega)).2.1 (hG _ (by omega)).2.2.1) (cwV 1 hts gX0_isOld_X0_isOutdated rfl rfl rfl (by decide +kernel) ⟨Nat.le_of_ble_eq_true rfl, Nat.le_of_ble_eq_true rfl⟩) k_B_bl (k_B_of hP hK) (va_recv hK hP (ci := 0) (q0 := 0) rfl rfl) rfl hl.1 rfl (Nat.le_of_ble_eq_true rfl) dX0_isOld_11 ⟨Nat.zero_le _, Nat.zero_le _⟩ ?_
  exact k_zret hx hb hr hlocks dX0_isOld_14 (rfl)
set_option maxHeartbeats 4000000 in
set_option maxRecDepth 100000 in
theorem c_X0_read (l : Launch) (D : va_G) (cI : ClassId) (q : Nat → Nat) (sh sp ld nm tx ds ct : Nat → Int32) (co : Int64) (kg : Int32) (ks : Nat → Int32) (p0 x0 : Nat) (hp : p0 < 8) (hx0 : x0 < 4) (T K : Nat → Nat) (hG : ∀ w, w < 32 → T w < 32768 ∧ K w ≤ 5 ∧ tx w = nI (32768 * K w + T w) ∧ ∀ j, j < K w → S25 (ct (w * 5 + j))) (hsh : ∀ g, g < 8 → S25 (sh g)) (hS0 : ∀ w, w < 32 → T w < 8 ^ K w) : k_M l yX0_read wsX0_read ({ frames := 5, cells := 0, slots := 0, locals := 115 } : Room) [.ref (q 0), .int (nI p0), .int (nI x0)] (k_B D (wx cI q sh sp ld nm tx ds ct co kg ks) [(cI, .int)]) (some (.int (if K (p0 * 4 + x0) = 0 then (-1) else nI (rtN (rdS sh ct ds (p0 * 4 + x0)) (K (p0 * 4 + x0)))))) := by
  refine k_head (cc := cX0_read) (maxL := 4) (ret := some .int) [(0, .ref (q 0)), (1, .int (nI p0)), (2, .int (nI x0))] (by decide) rfl (Nat.le_of_ble_eq_true rfl) rfl ?_
  intro p e s m below meth c ls hx hb hr hml hown hts hlocks hname hB hl
  have hown : s.vm.findClass RX0 = some m.cls := hown
  obtain ⟨hP, hK⟩ := hB
  have hin : ∀ w ∈ wsX00, w ∈ wsX0_read := fun w h => List.mem_cons_of_mem _ (List.mem_append_left _ (List.mem_append_right _ h))
  refine lv_iload_n hx hb dX0_read_0 rfl (lv_at hl 1 rfl) ?_
  refine lv_iload_n hx hb dX0_read_1 rfl (lv_at hl 2 rfl) ?_
  refine k_callS0 (As := [.int (nI p0), .int (nI x0)]) (rest := []) ⟨hx, hb, hml, hown, hts⟩ (c_X0_requireExit l p0 x0 (by omega) (by omega)) (va_cwS 2 hts gX0_read_X0_requireExit rfl rfl rfl (by decide +kernel) ⟨Nat.le_of_ble_eq_true rfl, Nat.le_of_ble_eq_true rfl⟩) k_bl_tt (fun _ _ _ => trivial) rfl hl.1 rfl (Nat.le_of_ble_eq_true rfl) dX0_read_2 ⟨Nat.zero_le _, Nat.zero_le _⟩ ?_
  refine lv_iload_n hx hb dX0_read_5 rfl (lv_at hl 1 rfl) ?_
  refine lv_iload_n hx hb dX0_read_6 rfl (lv_at hl 2 rfl) ?_
  refine k_callSi (As := [.int (nI p0), .int (nI x0)]) (rest := []) ⟨hx, hb, hml, hown, hts⟩ (c_X0_wayOf l p0 x0) (va_cwS 2 hts gX0_read_X0_wayOf rfl rfl rfl (by decide +kernel) ⟨Nat.le_of_ble_eq_true rfl, Nat.le_of_ble_eq_true rfl⟩) k_bl_tt (fun _ _ _ => trivial) rfl hl.1 rfl (Nat.le_of_ble_eq_true rfl) dX0_read_7 ⟨Nat.zero_le _, Nat.zero_le _⟩ ?_
  refine lv_istore_n (lv' := [(3, .int (nI (p0 * 4 + x0))), (0, .ref (q 0)), (1, .int (nI p0)), (2, .int (nI x0))]) hx hb dX0_read_10 rfl hl (by decide) rfl (fun ls hl => ?_)
  refine lv_aload_n hx hb dX0_read_11 rfl (lv_at hl 1 rfl) ?_
  refine va_get (D := D) (ci := 0) (v := .ref (q 5)) (C := RX0) (T := TX0) (N := 10) hx hb hts hin hown hK hP 0 rfl rfl 4 (by decide) (hts (.fieldLink RX0 22 "SignRail" "signTexts" "[I") (by decide +kernel)) (fun _ h9 => h9) rfl dX0_read_12 ?_
  refine lv_iload_n hx hb dX0_read_15 rfl (lv_at hl 0 rfl) ?_
  refine n_iald hx hb hK hP 5 0 rfl rfl (k := (p0 * 4 + x0)) (by omega) (Nat.le_of_ble_eq_true rfl) dX0_read_16 ?_
  refine lv_as (y := nI (32768 * (K (p0 * 4 + x0)) + (T (p0 * 4 + x0)))) ((hG _ (by omega)).2.2.1) ?_
  refine n_if_ne (tgt := 24) hx hb dX0_read_17 (by decide) (by have := hG _ (show p0 * 4 + x0 < 32 by omega); omega) (fun c_17 => ?_) (fun c_17 => ?_)
  · have hrt := rtN_lt (r := rdS sh ct ds (p0 * 4 + x0)) (fun _ => rdG_lt _ _) (K (p0 * 4 + x0))
    have hp8 := p8_le (k := K (p0 * 4 + x0)) (hG _ (by omega)).2.1
    refine lv_aload_n hx hb dX0_read_24 rfl (lv_at hl 1 rfl) ?_
    refine lv_iload_n hx hb dX0_read_25 rfl (lv_at hl 0 rfl) ?_
    refine k_callVi (As := [.int (nI (p0 * 4 + x0))]) (rest := []) ⟨hx, hb, hml, hown, hts⟩ (c_X0_readText l D cI q sh sp ld nm tx ds ct co kg ks (p0 * 4 + x0) (T (p0 * 4 + x0)) (K (p0 * 4 + x0)) (by omega) (hG _ (by omega)).1 (hG _ (by omega)).2.1 (hG _ (by omega)).2.2.1 hsh (hG _ (by omega)).2.2.2) (cwV 1 hts gX0_read_X0_readText rfl rfl rfl (by decide +kernel) ⟨Nat.le_of_ble_eq_true rfl, Nat.le_of_ble_eq_true rfl⟩) k_B_bl (k_B_of hP hK) (va_recv hK hP (ci := 0) (q0 := 0) rfl rfl) rfl hl.1 rfl (Nat.le_of_ble_eq_true rfl) dX0_read_26 ⟨Nat.zero_le _, Nat.zero_le _⟩ ?_
    refine k_callSi (As := [.int (nI (32768 * (K (p0 * 4 + x0)) + (rtN (rdS sh ct ds (p0 * 4 + x0)) (K (p0 * 4 + x0)))))]) (rest := []) ⟨hx, hb, hml, hown, hts⟩ (c_X0_numberOf l (rtN (rdS sh ct ds (p0 * 4 + x0)) (K (p0 * 4 + x0))) (K (p0 * 4 + x0)) (by omega)) (va_cwS 1 hts gX0_read_X0_numberOf rfl rfl rfl (by decide +kernel) ⟨Nat.le_of_ble_eq_true rfl, Nat.le_of_ble_eq_true rfl⟩) k_bl_tt (fun _ _ _ => trivial) rfl hl.1 rfl (Nat.le_of_ble_eq_true rfl) dX0_read_29 ⟨Nat.zero_le _, Nat.zero_le _⟩ ?_
    exact k_iret hx hb hr hlocks dX0_read_32 ((if_neg (fun q => by have h0 := hS0 (p0 * 4 + x0) (by omega); rw [q] at h0 c_17; omega)).symm)
  · refine lv_iconst (v := (-1)) hx hb dX0_read_20 (by decide) ?_
    refine lv_goto (tgt := 32) hx hb dX0_read_21 (by decide) ?_
    exact k_iret hx hb hr hlocks dX0_read_32 ((if_pos (by omega)).symm)
set_option maxHeartbeats 4000000 in
set_option maxRecDepth 100000 in
theorem c_X0_cost (l : Launch) (D : va_G) (cI : ClassId) (q : Nat → Nat) (sh sp ld nm tx ds ct : Nat → Int32) (co : Int64) (kg : Int32) (ks : Nat → Int32) : k_M l yX0_cost wsX0_cost ({ frames := 0, cells := 0, slots := 0, locals := 0 } : Room) [.ref (q 0)] (k_B D (wx cI q sh sp ld nm tx ds ct co kg ks) [(cI, .int)]) (some (.long co)) := by
  refine k_head (cc := cX0_cost) (maxL := 1) (ret := some .long) [(0, .ref (q 0))] (by decide) rfl (Nat.le_of_ble_eq_true rfl) rfl ?_
  intro p e s m below meth c ls hx hb hr hml hown hts hlocks hname hB hl
  have hown : s.vm.findClass RX0 = some m.cls := hown
  obtain ⟨hP, hK⟩ := hB
  have hin : ∀ w ∈ wsX00, w ∈ wsX0_cost := fun w h => List.mem_cons_of_mem _ (List.mem_append_right _ h)
  refine lv_aload_n hx hb dX0_cost_0 rfl (lv_at hl 0 rfl) ?_
  refine va_get (D := D) (ci := 0) (v := .long co) (C := RX0) (T := TX0) (N := 10) hx hb hts hin hown hK hP 0 rfl rfl 7 (by decide) (hts (.fieldLink RX0 31 "SignRail" "costSoFar" "J") (by decide +kernel)) (fun _ h9 => h9) rfl dX0_cost_1 ?_
  exact W.lret hx hb hr (fun t ht hW => ⟨rfl, ht⟩) (fun q hq => nomatch hq) dX0_cost_4 hlocks
set_option maxHeartbeats 4000000 in
set_option maxRecDepth 100000 in
theorem c_X0_walkBySteps (l : Launch) (D : va_G) (cI : ClassId) (q : Nat → Nat) (sh sp ld nm tx ds ct : Nat → Int32) (co : Int64) (kg : Int32) (ks : Nat → Int32) (p0 : Nat) (hp : p0 < 8) (t k : Nat) (hk1 : 1 ≤ k) (hk5 : k ≤ 5) (htk : t < 8 ^ k) (T K : Nat → Nat) (hG : ∀ w, w < 32 → T w < 32768 ∧ K w ≤ 5 ∧ tx w = nI (32768 * K w + T w) ∧ ∀ j, j < K w → S25 (ct (w * 5 + j))) (Ld : Nat → Nat) (hLd : ∀ w, w < 32 → Ld w ≤ 8 ∧ ld w = ix (Ld w)) (hsh : ∀ g, g < 8 → S25 (sh g)) (NT NK : Nat → Nat) (hN : ∀ p, p < 8 → NT p < 32768 ∧ NK p ≤ 5 ∧ nm p = nI (32768 * NK p + NT p)) : k_M l yX0_walkBySteps wsX0_walkBySteps ({ frames := 7, cells := 0, slots := 0, locals := 167 } : Room) [.ref (q 0), .int (nI p0), .int (nI t), .int (nI k)] (k_B D (wx cI q sh sp ld nm tx ds ct co kg ks) [(cI, .int)]) (some (.int (sa (toldC sh ct ds K k t) Ld (arrC NK NT k t) 31 0 p0 tk0))) := by
  refine k_head (cc := cX0_walkBySteps) (maxL := 4) (ret := some .int) [(0, .ref (q 0)), (1, .int (nI p0)), (2, .int (nI t)), (3, .int (nI k))] (by decide) rfl (Nat.le_of_ble_eq_true rfl) rfl ?_
  intro p e s m below meth c ls hx hb hr hml hown hts hlocks hname hB hl
  have hown : s.vm.findClass RX0 = some m.cls := hown
  obtain ⟨hP, hK⟩ := hB
  have hin : ∀ w ∈ wsX00, w ∈ wsX0_walkBySteps := fun w h => List.mem_cons_of_mem _ (List.mem_append_left _ (List.mem_append_left _ (List.mem_append_right _ h)))
  have hp8 := p8_le hk5
  have ht' : t < 32768 := by omega
  refine lv_iload_n hx hb dX0_walkBySteps_0 rfl (lv_at hl 1 rfl) ?_
  refine k_callS0 (As := [.int (nI p0)]) (rest := []) ⟨hx, hb, hml, hown, hts⟩ (c_X0_requirePlace l p0 (by omega)) (va_cwS 1 hts gX0_walkBySteps_X0_requirePlace rfl rfl rfl (by decide +kernel) ⟨Nat.le_of_ble_eq_true rfl, Nat.le_of_ble_eq_true rfl⟩) k_bl_tt (fun _ _ _ => trivial) rfl hl.1 rfl (Nat.le_of_ble_eq_true rfl) dX0_walkBySteps_1 ⟨Nat.zero_le _, Nat.zero_le _⟩ ?_
  refine lv_iload_n hx hb dX0_walkBySteps_4 rfl (lv_at hl 2 rfl) ?_
  refine lv_iload_n hx hb dX0_walkBySteps_5 rfl (lv_at hl 3 rfl) ?_
  refine k_callS0 (As := [.int (nI t), .int (nI k)]) (rest := []) ⟨hx, hb, hml, hown, hts⟩ (c_X0_requireText l t k (by omega) (by omega) (by assumption)) (va_cwS 2 hts gX0_walkBySteps_X0_requireText rfl rfl rfl (by decide +kernel) ⟨Nat.le_of_ble_eq_true rfl, Nat.le_of_ble_eq_true rfl⟩) k_bl_tt (fun _ _ _ => trivial) rfl hl.1 rfl (Nat.le_of_ble_eq_true rfl) dX0_walkBySteps_6 ⟨Nat.zero_le _, Nat.zero_le _⟩ ?_
  refine lv_aload_n hx hb dX0_walkBySteps_9 rfl (lv_at hl 0 rfl) ?_
  refine lv_iload_n hx hb dX0_walkBySteps_10 rfl (lv_at hl 1 rfl) ?_
  refine lv_iload_n hx hb dX0_walkBySteps_11 rfl (lv_at hl 2 rfl) ?_
  refine lv_iload_n hx hb dX0_walkBySteps_12 rfl (lv_at hl 3 rfl) ?_
  refine k_callSi (As := [.int (nI t), .int (nI k)]) (rest := [.int (nI p0), .ref (q 0)]) ⟨hx, hb, hml, hown, hts⟩ (c_X0_pack l t k (by omega) (by omega)) (va_cwS 2 hts gX0_walkBySteps_X0_pack rfl rfl rfl (by decide +kernel) ⟨Nat.le_of_ble_eq_true rfl, Nat.le_of_ble_eq_true rfl⟩) k_bl_tt (fun _ _ _ => trivial) rfl hl.1 rfl (Nat.le_of_ble_eq_true rfl) dX0_walkBySteps_13 ⟨Nat.zero_le _, Nat.zero_le _⟩ ?_
  refine k_callVi (As := [.int (nI p0), .int (nI (32768 * k + t))]) (rest := []) ⟨hx, hb, hml, hown, hts⟩ (c_X0_stepsToArrive l D cI q sh sp ld nm tx ds ct co kg ks p0 hp t k ht' hk5 T K Ld hG hLd hsh NT NK hN) (cwV 2 hts gX0_walkBySteps_X0_stepsToArrive rfl rfl rfl (by decide +kernel) ⟨Nat.le_of_ble_eq_true rfl, Nat.le_of_ble_eq_true rfl⟩) k_B_bl (k_B_of hP hK) (va_recv hK hP (ci := 0) (q0 := 0) rfl rfl) rfl hl.1 rfl (Nat.le_of_ble_eq_true rfl) dX0_walkBySteps_16 ⟨Nat.zero_le _, Nat.zero_le _⟩ ?_
  exact k_iret hx hb hr hlocks dX0_walkBySteps_19 (rfl)
set_option maxHeartbeats 4000000 in
set_option maxRecDepth 100000 in
theorem c_X0_placeBehind (l : Launch) (D : va_G) (cI : ClassId) (q : Nat → Nat) (sh sp ld nm tx ds ct : Nat → Int32) (co : Int64) (kg : Int32) (ks : Nat → Int32) (p0 : Nat) (hp : p0 < 8) (t k : Nat) (hk1 : 1 ≤ k) (hk5 : k ≤ 5) (htk : t < 8 ^ k) (s0 : Nat) (hs0 : s0 ≤ 30) (T K : Nat → Nat) (hG : ∀ w, w < 32 → T w < 32768 ∧ K w ≤ 5 ∧ tx w = nI (32768 * K w + T w) ∧ ∀ j, j < K w → S25 (ct (w * 5 + j))) (Ld : Nat → Nat) (hLd : ∀ w, w < 32 → Ld w ≤ 8 ∧ ld w = ix (Ld w)) (hsh : ∀ g, g < 8 → S25 (sh g)) (NT NK : Nat → Nat) (hN : ∀ p, p < 8 → NT p < 32768 ∧ NK p ≤ 5 ∧ nm p = nI (32768 * NK p + NT p)) : k_M l yX0_placeBehind wsX0_placeBehind ({ frames := 7, cells := 0, slots := 0, locals := 168 } : Room) [.ref (q 0), .int (nI p0), .int (nI t), .int (nI k), .int (nI s0)] (k_B D (wx cI q sh sp ld nm tx ds ct co kg ks) [(cI, .int)]) (some (.int (nI (pl (toldC sh ct ds K k t) Ld (arrC NK NT k t) s0 p0 tk0)))) := by
  refine k_head (cc := cX0_placeBehind) (maxL := 5) (ret := some .int) [(0, .ref (q 0)), (1, .int (nI p0)), (2, .int (nI t)), (3, .int (nI k)), (4, .int (nI s0))] (by decide) rfl (Nat.le_of_ble_eq_true rfl) rfl ?_
  intro p e s m below meth c ls hx hb hr hml hown hts hlocks hname hB hl
  have hown : s.vm.findClass RX0 = some m.cls := hown
  obtain ⟨hP, hK⟩ := hB
  have hin : ∀ w ∈ wsX00, w ∈ wsX0_placeBehind := fun w h => List.mem_cons_of_mem _ (List.mem_append_left _ (List.mem_append_left _ (List.mem_append_right _ h)))
  have hp8 := p8_le hk5
  have ht' : t < 32768 := by omega
  refine lv_iload_n hx hb dX0_placeBehind_0 rfl (lv_at hl 1 rfl) ?_
  refine k_callS0 (As := [.int (nI p0)]) (rest := []) ⟨hx, hb, hml, hown, hts⟩ (c_X0_requirePlace l p0 (by omega)) (va_cwS 1 hts gX0_placeBehind_X0_requirePlace rfl rfl rfl (by decide +kernel) ⟨Nat.le_of_ble_eq_true rfl, Nat.le_of_ble_eq_true rfl⟩) k_bl_tt (fun _ _ _ => trivial) rfl hl.1 rfl (Nat.le_of_ble_eq_true rfl) dX0_placeBehind_1 ⟨Nat.zero_le _, Nat.zero_le _⟩ ?_
  refine lv_iload_n hx hb dX0_placeBehind_4 rfl (lv_at hl 2 rfl) ?_
  refine lv_iload_n hx hb dX0_placeBehind_5 rfl (lv_at hl 3 rfl) ?_
  refine k_callS0 (As := [.int (nI t), .int (nI k)]) (rest := []) ⟨hx, hb, hml, hown, hts⟩ (c_X0_requireText l t k (by omega) (by omega) (by assumption)) (va_cwS 2 hts gX0_placeBehind_X0_requireText rfl rfl rfl (by decide +kernel) ⟨Nat.le_of_ble_eq_true rfl, Nat.le_of_ble_eq_true rfl⟩) k_bl_tt (fun _ _ _ => trivial) rfl hl.1 rfl (Nat.le_of_ble_eq_true rfl) dX0_placeBehind_6 ⟨Nat.zero_le _, Nat.zero_le _⟩ ?_
  refine lv_iload hx hb dX0_placeBehind_9 (lv_at hl 4 rfl) ?_
  refine n_if_lt (tgt := 21) hx hb dX0_placeBehind_11 (by decide) (by omega) ?_
  refine lv_iload hx hb dX0_placeBehind_14 (lv_at hl 4 rfl) ?_
  refine lv_bipush (v := nI 30) hx hb dX0_placeBehind_16 (by decide) ?_
  refine n_icmp_le (tgt := 31) hx hb dX0_placeBehind_18 (by decide) (by omega) (by omega) (fun c_18 => ?_) (fun c_18 => ?_)
  · refine lv_aload_n hx hb dX0_placeBehind_31 rfl (lv_at hl 0 rfl) ?_
    refine lv_iload_n hx hb dX0_placeBehind_32 rfl (lv_at hl 1 rfl) ?_
    refine lv_iload_n hx hb dX0_placeBehind_33 rfl (lv_at hl 2 rfl) ?_
    refine lv_iload_n hx hb dX0_placeBehind_34 rfl (lv_at hl 3 rfl) ?_
    refine k_callSi (As := [.int (nI t), .int (nI k)]) (rest := [.int (nI p0), .ref (q 0)]) ⟨hx, hb, hml, hown, hts⟩ (c_X0_pack l t k (by omega) (by omega)) (va_cwS 2 hts gX0_placeBehind_X0_pack rfl rfl rfl (by decide +kernel) ⟨Nat.le_of_ble_eq_true rfl, Nat.le_of_ble_eq_true rfl⟩) k_bl_tt (fun _ _ _ => trivial) rfl hl.1 rfl (Nat.le_of_ble_eq_true rfl) dX0_placeBehind_35 ⟨Nat.zero_le _, Nat.zero_le _⟩ ?_
    refine lv_iload hx hb dX0_placeBehind_38 (lv_at hl 4 rfl) ?_
    refine k_callVi (As := [.int (nI p0), .int (nI (32768 * k + t)), .int (nI s0)]) (rest := []) ⟨hx, hb, hml, hown, hts⟩ (c_X0_placeReached l D cI q sh sp ld nm tx ds ct co kg ks p0 hp t k ht' hk5 s0 (by omega) T K Ld hG hLd hsh NT NK hN) (cwV 3 hts gX0_placeBehind_X0_placeReached rfl rfl rfl (by decide +kernel) ⟨Nat.le_of_ble_eq_true rfl, Nat.le_of_ble_eq_true rfl⟩) k_B_bl (k_B_of hP hK) (va_recv hK hP (ci := 0) (q0 := 0) rfl rfl) rfl hl.1 rfl (Nat.le_of_ble_eq_true rfl) dX0_placeBehind_40 ⟨Nat.zero_le _, Nat.zero_le _⟩ ?_
    exact k_iret hx hb hr hlocks dX0_placeBehind_43 (rfl)
  · exact absurd hs0 (by omega)
set_option maxHeartbeats 4000000 in
set_option maxRecDepth 100000 in
theorem c_X0_walk (l : Launch) (D : va_G) (cI : ClassId) (q : Nat → Nat) (sh sp ld nm tx ds ct : Nat → Int32) (co : Int64) (kg : Int32) (ks : Nat → Int32) (p0 : Nat) (hp : p0 < 8) (t k : Nat) (hk1 : 1 ≤ k) (hk5 : k ≤ 5) (htk : t < 8 ^ k) (T K : Nat → Nat) (hG : ∀ w, w < 32 → T w < 32768 ∧ K w ≤ 5 ∧ tx w = nI (32768 * K w + T w) ∧ ∀ j, j < K w → S25 (ct (w * 5 + j))) (Ld : Nat → Nat) (hLd : ∀ w, w < 32 → Ld w ≤ 8 ∧ ld w = ix (Ld w)) (hsh : ∀ g, g < 8 → S25 (sh g)) (NT NK : Nat → Nat) (hN : ∀ p, p < 8 → NT p < 32768 ∧ NK p ≤ 5 ∧ nm p = nI (32768 * NK p + NT p)) (hKp : kpOK (fun gk gt p => sa (toldC sh ct ds K gk gt) Ld (arrC NK NT gk gt) 31 0 p tk0) kg ks) (hDt : va_D (fun _ => True) (wx cI q sh sp ld nm tx ds ct co kg ks)) : Met l yX0_walk wsX0_walk ({ frames := 7, cells := 0, slots := 0, locals := 167 } : Room) (k_P [.ref (q 0), .int (nI p0), .int (nI t), .int (nI k)] (k_B D (wx cI q sh sp ld nm tx ds ct co kg ks) [(cI, .int)])) (k_WQ D (wx cI q sh sp ld nm tx ds ct co kg ks) (fun u : Int32 × (Nat → Int32) => kpOK (fun gk gt p => sa (toldC sh ct ds K gk gt) Ld (arrC NK NT gk gt) 31 0 p tk0) u.1 u.2) (fun u => wx cI q sh sp ld nm tx ds ct co u.1 u.2) (fun u => some (.int (sa (toldC sh ct ds K k t) Ld (arrC NK NT k t) 31 0 p0 tk0)))) 0 0 (k_A (wx cI q sh sp ld nm tx ds ct co kg ks)) := by
  refine k_head (cc := cX0_walk) (maxL := 5) (ret := (some .int)) [(0, .ref (q 0)), (1, .int (nI p0)), (2, .int (nI t)), (3, .int (nI k))] (by decide) rfl (Nat.le_of_ble_eq_true rfl) rfl ?_
  intro p e s m below meth c ls hx hb hr hml hown hts hlocks hname hB hl
  have hown : s.vm.findClass RX0 = some m.cls := hown
  obtain ⟨hP, hK⟩ := hB
  have hin : ∀ w ∈ wsX00, w ∈ wsX0_walk := fun w h => List.mem_cons_of_mem _ (List.mem_append_left _ (List.mem_append_left _ (List.mem_append_right _ h)))
  have hD := k_A_D hDt
  have hS : va_S (k_A (wx cI q sh sp ld nm tx ds ct co kg ks)) s.heap s.heap [] := va_S.rf
  have hp8 := p8_le hk5
  have ht' : t < 32768 := by omega
  refine lv_iload_n hx hb dX0_walk_0 rfl (lv_at hl 1 rfl) ?_
  refine k_callS0 (As := [.int (nI p0)]) (rest := []) ⟨hx, hb, hml, hown, hts⟩ (c_X0_requirePlace l p0 (by omega)) (va_cwS 1 hts gX0_walk_X0_requirePlace rfl rfl rfl (by decide +kernel) ⟨Nat.le_of_ble_eq_true rfl, Nat.le_of_ble_eq_true rfl⟩) k_bl_tt (fun _ _ _ => trivial) rfl hl.1 rfl (Nat.le_of_ble_eq_true rfl) dX0_walk_1 ⟨Nat.zero_le _, Nat.zero_le _⟩ ?_
  refine lv_iload_n hx hb dX0_walk_4 rfl (lv_at hl 2 rfl) ?_
  refine lv_iload_n hx hb dX0_walk_5 rfl (lv_at hl 3 rfl) ?_
  refine k_callS0 (As := [.int (nI t), .int (nI k)]) (rest := []) ⟨hx, hb, hml, hown, hts⟩ (c_X0_requireText l t k (by omega) (by omega) (by assumption)) (va_cwS 2 hts gX0_walk_X0_requireText rfl rfl rfl (by decide +kernel) ⟨Nat.le_of_ble_eq_true rfl, Nat.le_of_ble_eq_true rfl⟩) k_bl_tt (fun _ _ _ => trivial) rfl hl.1 rfl (Nat.le_of_ble_eq_true rfl) dX0_walk_6 ⟨Nat.zero_le _, Nat.zero_le _⟩ ?_
  refine lv_iload_n hx hb dX0_walk_9 rfl (lv_at hl 2 rfl) ?_
  refine lv_iload_n hx hb dX0_walk_10 rfl (lv_at hl 3 rfl) ?_
  refine k_callSi (As := [.int (nI t), .int (nI k)]) (rest := []) ⟨hx, hb, hml, hown, hts⟩ (c_X0_pack l t k (by omega) (by omega)) (va_cwS 2 hts gX0_walk_X0_pack rfl rfl rfl (by decide +kernel) ⟨Nat.le_of_ble_eq_true rfl, Nat.le_of_ble_eq_true rfl⟩) k_bl_tt (fun _ _ _ => trivial) rfl hl.1 rfl (Nat.le_of_ble_eq_true rfl) dX0_walk_11 ⟨Nat.zero_le _, Nat.zero_le _⟩ ?_
  refine lv_istore (lv' := [(4, .int (nI (32768 * k + t))), (0, .ref (q 0)), (1, .int (nI p0)), (2, .int (nI t)), (3, .int (nI k))]) hx hb dX0_walk_14 hl (by decide) rfl (fun ls hl => ?_)
  refine lv_iload hx hb dX0_walk_16 (lv_at hl 0 rfl) ?_
  refine lv_aload_n hx hb dX0_walk_18 rfl (lv_at hl 1 rfl) ?_
  refine va_get (D := D) (ci := 0) (v := .int kg) (C := RX0) (T := TX0) (N := 10) hx hb hts hin hown hK hP 0 rfl rfl 8 (by decide) (hts (.fieldLink RX0 35 "SignRail" "keptGoal" "I") (by decide +kernel)) (fun _ h9 => h9) rfl dX0_walk_19 ?_
  refine lv_icmp_eq (tgt := 40) hx hb dX0_walk_22 (by decide) (fun c_22 => ?_) (fun c_22 => ?_)
  · refine lv_aload_n hx hb dX0_walk_40 rfl (lv_at hl 1 rfl) ?_
    refine va_get (D := D) (ci := 0) (v := .ref (q 8)) (C := RX0) (T := TX0) (N := 10) hx hb hts hin hown hK hP 0 rfl rfl 9 (by decide) (hts (.fieldLink RX0 39 "SignRail" "keptSteps" "[I") (by decide +kernel)) (fun _ h9 => h9) rfl dX0_walk_41 ?_
    refine lv_iload_n hx hb dX0_walk_44 rfl (lv_at hl 2 rfl) ?_
    refine n_iald hx hb hK hP 8 0 rfl rfl (k := p0) (by omega) (Nat.le_of_ble_eq_true rfl) dX0_walk_45 ?_
    refine lv_bipush (v := (-2)) hx hb dX0_walk_46 (by decide) ?_
    refine lv_icmp_ne (tgt := 64) hx hb dX0_walk_48 (by decide) (fun c_48 => ?_) (fun c_48 => ?_)
    · refine lv_aload_n hx hb dX0_walk_64 rfl (lv_at hl 1 rfl) ?_
      refine va_get (D := D) (ci := 0) (v := .ref (q 8)) (C := RX0) (T := TX0) (N := 10) hx hb hts hin hown hK hP 0 rfl rfl 9 (by decide) (hts (.fieldLink RX0 39 "SignRail" "keptSteps" "[I") (by decide +kernel)) (fun _ h9 => h9) rfl dX0_walk_65 ?_
      refine lv_iload_n hx hb dX0_walk_68 rfl (lv_at hl 2 rfl) ?_
      refine n_iald hx hb hK hP 8 0 rfl rfl (k := p0) (by omega) (Nat.le_of_ble_eq_true rfl) dX0_walk_69 ?_
      refine lv_as (y := sa (toldC sh ct ds K k t) Ld (arrC NK NT k t) 31 0 p0 tk0) ((hKp k t hk1 hk5 htk c_22.symm p0 hp).resolve_left c_48) ?_
      exact k_wiret ((kg, ks))  hx hb hr hlocks dX0_walk_70 (hKp) rfl hP hS (Nat.le_of_ble_eq_true rfl) (Nat.le_of_ble_eq_true rfl)
    · refine lv_aload_n hx hb dX0_walk_51 rfl (lv_at hl 1 rfl) ?_
      refine va_get (D := D) (ci := 0) (v := .ref (q 8)) (C := RX0) (T := TX0) (N := 10) hx hb hts hin hown hK hP 0 rfl rfl 9 (by decide) (hts (.fieldLink RX0 39 "SignRail" "keptSteps" "[I") (by decide +kernel)) (fun _ h9 => h9) rfl dX0_walk_52 ?_
      refine lv_iload_n hx hb dX0_walk_55 rfl (lv_at hl 2 rfl) ?_
      refine lv_aload_n hx hb dX0_walk_56 rfl (lv_at hl 1 rfl) ?_
      refine lv_iload_n hx hb dX0_walk_57 rfl (lv_at hl 2 rfl) ?_
      refine lv_iload hx hb dX0_walk_58 (lv_at hl 0 rfl) ?_
      refine k_callVi (As := [.int (nI p0), .int (nI (32768 * k + t))]) (rest := [.int (nI p0), .ref (q 8)]) ⟨hx, hb, hml, hown, hts⟩ (c_X0_stepsToArrive l D cI q sh sp ld nm tx ds ct co kg ks p0 hp t k ht' hk5 T K Ld hG hLd hsh NT NK hN) (cwV 2 hts gX0_walk_X0_stepsToArrive rfl rfl rfl (by decide +kernel) ⟨Nat.le_of_ble_eq_true rfl, Nat.le_of_ble_eq_true rfl⟩) k_B_bl (k_B_of hP hK) (va_recv hK hP (ci := 0) (q0 := 0) rfl rfl) rfl hl.1 rfl (Nat.le_of_ble_eq_true rfl) dX0_walk_60 ⟨Nat.zero_le _, Nat.zero_le _⟩ ?_
      refine n_iast hx hb hK hP hD hS 8 0 rfl rfl (k := p0) (by omega) (Nat.le_of_ble_eq_true rfl) dX0_walk_63 (fun H locs hP hD hS => ?_)
      have hP : va_P D vwCl (wx cI q sh sp ld nm tx ds ct co kg (upd ks p0 (sa (toldC sh ct ds K k t) Ld (arrC NK NT k t) 31 0 p0 tk0))) H := hP
      have hD : va_D _ (wx cI q sh sp ld nm tx ds ct co kg (upd ks p0 (sa (toldC sh ct ds K k t) Ld (arrC NK NT k t) 31 0 p0 tk0))) := hD
      refine lv_aload_n hx hb dX0_walk_64 rfl (lv_at hl 1 rfl) ?_
      refine va_get (D := D) (ci := 0) (v := .ref (q 8)) (C := RX0) (T := TX0) (N := 10) hx hb hts hin hown hK hP 0 rfl rfl 9 (by decide) (hts (.fieldLink RX0 39 "SignRail" "keptSteps" "[I") (by decide +kernel)) (fun _ h9 => h9) rfl dX0_walk_65 ?_
      refine lv_iload_n hx hb dX0_walk_68 rfl (lv_at hl 2 rfl) ?_
      refine n_iald hx hb hK hP 8 0 rfl rfl (k := p0) (by omega) (Nat.le_of_ble_eq_true rfl) dX0_walk_69 ?_
      refine lv_as (y := sa (toldC sh ct ds K k t) Ld (arrC NK NT k t) 31 0 p0 tk0) (pk_us) ?_
      exact k_wiret ((kg, upd ks p0 (sa (toldC sh ct ds K k t) Ld (arrC NK NT k t) 31 0 p0 tk0)))  hx hb hr hlocks dX0_walk_70 (kp_upd (sf := fun gk gt p => sa (toldC sh ct ds K gk gt) Ld (arrC NK NT gk gt) 31 0 p tk0) hk5 htk c_22.symm (fun v hv _ => hKp k t hk1 hk5 htk c_22.symm v hv)) rfl hP hS (Nat.le_of_ble_eq_true rfl) (Nat.le_of_ble_eq_true rfl)
  · refine lv_aload_n hx hb dX0_walk_25 rfl (lv_at hl 1 rfl) ?_
    refine lv_iload hx hb dX0_walk_26 (lv_at hl 0 rfl) ?_
    refine va_put (D := D) (ci := 0) (v := .int (nI (32768 * k + t))) (ty := .int) (C := RX0) (T := TX0) (N := 10) hx hb hts hin tyX0 tyX0_ok nmX0 hown hK hP hD hS 0 rfl rfl 8 (by decide) (hts (.fieldLink RX0 35 "SignRail" "keptGoal" "I") (by decide +kernel)) (fun _ h9 => h9) rfl (by decide +kernel) (rfl) (rfl) (Nat.le_of_ble_eq_true rfl) dX0_walk_28 (fun H locs hP hD hS => ?_)
    have hP : va_P D vwCl (wx cI q sh sp ld nm tx ds ct co (nI (32768 * k + t)) ks) H := hP
    have hD : va_D _ (wx cI q sh sp ld nm tx ds ct co (nI (32768 * k + t)) ks) := hD
    refine lv_aload_n hx hb dX0_walk_31 rfl (lv_at hl 1 rfl) ?_
    refine va_get (D := D) (ci := 0) (v := .ref (q 8)) (C := RX0) (T := TX0) (N := 10) hx hb hts hin hown hK hP 0 rfl rfl 9 (by decide) (hts (.fieldLink RX0 39 "SignRail" "keptSteps" "[I") (by decide +kernel)) (fun _ h9 => h9) rfl dX0_walk_32 ?_
    refine lv_bipush (v := (-2)) hx hb dX0_walk_35 (by decide) ?_
    refine k_callSW (wr := (wx cI q sh sp ld nm tx ds ct co (nI (32768 * k + t)) ks).take 8) (As := [.ref (q 8), .int (-2)]) (rest := []) ⟨hx, hb, hml, hown, hts⟩ (c_fill l D cI (q 8) 8 ks (-2) (by decide)) (va_cwS 2 hts gX0_walk_J7_fill_53178 rfl rfl rfl (by decide +kernel) ⟨Nat.le_of_ble_eq_true rfl, Nat.le_of_ble_eq_true rfl⟩) k_B_bl (k_B_of (hP.sub [8] rfl) hK) rfl hl.1 rfl (Nat.le_of_ble_eq_true rfl) dX0_walk_37 ⟨Nat.le_of_ble_eq_true rfl, Nat.le_of_ble_eq_true rfl⟩ hP hD hS [0, 1, 2, 3, 4, 5, 6, 7] [8] rfl rfl (fun _ => rfl) (fun u_37 H locs hu_37 hP hD hS hsz hkp => ?_)
    have hP : va_P D vwCl (wx cI q sh sp ld nm tx ds ct co (nI (32768 * k + t)) (fa_fill (fun _ => (-2)) ks 8)) H := hP
    have hD : va_D _ (wx cI q sh sp ld nm tx ds ct co (nI (32768 * k + t)) (fa_fill (fun _ => (-2)) ks 8)) := hD
    refine lv_aload_n hx hb dX0_walk_40 rfl (lv_at hl 1 rfl) ?_
    refine va_get (D := D) (ci := 0) (v := .ref (q 8)) (C := RX0) (T := TX0) (N := 10) hx hb hts hin hown hK hP 0 rfl rfl 9 (by decide) (hts (.fieldLink RX0 39 "SignRail" "keptSteps" "[I") (by decide +kernel)) (fun _ h9 => h9) rfl dX0_walk_41 ?_
    refine lv_iload_n hx hb dX0_walk_44 rfl (lv_at hl 2 rfl) ?_
    refine n_iald hx hb hK hP 8 0 rfl rfl (k := p0) (by omega) (Nat.le_of_ble_eq_true rfl) dX0_walk_45 ?_
    refine lv_bipush (v := (-2)) hx hb dX0_walk_46 (by decide) ?_
    refine lv_icmp_ne (tgt := 64) hx hb dX0_walk_48 (by decide) (fun c_48 => ?_) (fun c_48 => ?_)
    · exact absurd (fa_fill_in hp) c_48
    · refine lv_aload_n hx hb dX0_walk_51 rfl (lv_at hl 1 rfl) ?_
      refine va_get (D := D) (ci := 0) (v := .ref (q 8)) (C := RX0) (T := TX0) (N := 10) hx hb hts hin hown hK hP 0 rfl rfl 9 (by decide) (hts (.fieldLink RX0 39 "SignRail" "keptSteps" "[I") (by decide +kernel)) (fun _ h9 => h9) rfl dX0_walk_52 ?_
      refine lv_iload_n hx hb dX0_walk_55 rfl (lv_at hl 2 rfl) ?_
      refine lv_aload_n hx hb dX0_walk_56 rfl (lv_at hl 1 rfl) ?_
      refine lv_iload_n hx hb dX0_walk_57 rfl (lv_at hl 2 rfl) ?_
      refine lv_iload hx hb dX0_walk_58 (lv_at hl 0 rfl) ?_
      refine k_callVi (As := [.int (nI p0), .int (nI (32768 * k + t))]) (rest := [.int (nI p0), .ref (q 8)]) ⟨hx, hb, hml, hown, hts⟩ (c_X0_stepsToArrive l D cI q sh sp ld nm tx ds ct co (nI (32768 * k + t)) (fa_fill (fun _ => (-2)) ks 8) p0 hp t k ht' hk5 T K Ld hG hLd hsh NT NK hN) (cwV 2 hts gX0_walk_X0_stepsToArrive rfl rfl rfl (by decide +kernel) ⟨Nat.le_of_ble_eq_true rfl, Nat.le_of_ble_eq_true rfl⟩) k_B_bl (k_B_of hP hK) (va_recv hK hP (ci := 0) (q0 := 0) rfl rfl) rfl hl.1 rfl (Nat.le_of_ble_eq_true rfl) dX0_walk_60 ⟨Nat.zero_le _, Nat.zero_le _⟩ ?_
      refine n_iast hx hb hK hP hD hS 8 0 rfl rfl (k := p0) (by omega) (Nat.le_of_ble_eq_true rfl) dX0_walk_63 (fun H locs hP hD hS => ?_)
      have hP : va_P D vwCl (wx cI q sh sp ld nm tx ds ct co (nI (32768 * k + t)) (upd (fa_fill (fun _ => (-2)) ks 8) p0 (sa (toldC sh ct ds K k t) Ld (arrC NK NT k t) 31 0 p0 tk0))) H := hP
      have hD : va_D _ (wx cI q sh sp ld nm tx ds ct co (nI (32768 * k + t)) (upd (fa_fill (fun _ => (-2)) ks 8) p0 (sa (toldC sh ct ds K k t) Ld (arrC NK NT k t) 31 0 p0 tk0))) := hD
      refine lv_aload_n hx hb dX0_walk_64 rfl (lv_at hl 1 rfl) ?_
      refine va_get (D := D) (ci := 0) (v := .ref (q 8)) (C := RX0) (T := TX0) (N := 10) hx hb hts hin hown hK hP 0 rfl rfl 9 (by decide) (hts (.fieldLink RX0 39 "SignRail" "keptSteps" "[I") (by decide +kernel)) (fun _ h9 => h9) rfl dX0_walk_65 ?_
      refine lv_iload_n hx hb dX0_walk_68 rfl (lv_at hl 2 rfl) ?_
      refine n_iald hx hb hK hP 8 0 rfl rfl (k := p0) (by omega) (Nat.le_of_ble_eq_true rfl) dX0_walk_69 ?_
      refine lv_as (y := sa (toldC sh ct ds K k t) Ld (arrC NK NT k t) 31 0 p0 tk0) (pk_us) ?_
      exact k_wiret ((nI (32768 * k + t), upd (fa_fill (fun _ => (-2)) ks 8) p0 (sa (toldC sh ct ds K k t) Ld (arrC NK NT k t) 31 0 p0 tk0)))  hx hb hr hlocks dX0_walk_70 (kp_upd (sf := fun gk gt p => sa (toldC sh ct ds K gk gt) Ld (arrC NK NT gk gt) 31 0 p tk0) hk5 htk rfl (fun v hv _ => Or.inl (fa_fill_in hv))) rfl hP hS (Nat.le_of_ble_eq_true rfl) (Nat.le_of_ble_eq_true rfl)
