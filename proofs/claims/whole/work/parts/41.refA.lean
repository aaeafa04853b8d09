theorem bI_fit (b : Bool) : fits .boolean (.int (bI b)) = true := by cases b <;> rfl
theorem k_no {c n : Nat} (h : c = n) (hn : n ≠ 0) : nI n = nI c ∧ c ≠ 0 := ⟨by rw [h], by rw [h]; exact hn⟩
def engR (sh ct : Nat → Int32) (w t k : Nat) : Nat → Nat → Int32
  | 0 => ct
  | j + 1 => upd (engR sh ct w t k j) (5 * w + j) (sh (dg t (k - 1 - j)))
set_option maxHeartbeats 4000000 in
set_option maxRecDepth 100000 in
theorem c_X1_fails (l : Launch) (D : va_G) (cI cZ : ClassId) (q : Nat → Nat) (th : Int32) (sh sp ld nm nk tx mn ds ct : Nat → Int32) (co : Int64) (st at0 ha : Int32) (tk : Nat → Int32) (cde : Int32) (hDt : va_D (fun _ => True) (wm cI cZ q th sh sp ld nm nk tx mn ds ct co st at0 ha tk)) : Met l yX1_fails wsX1_fails ({ frames := 0, cells := 0, slots := 0, locals := 0 } : Room) (k_P [.ref (q 0), .int cde] (k_B D (wm cI cZ q th sh sp ld nm nk tx mn ds ct co st at0 ha tk) [(cI, .int), (cZ, .boolean)])) (k_WQ D (wm cI cZ q th sh sp ld nm nk tx mn ds ct co st at0 ha tk) (fun u : Unit => True) (fun u => wm cI cZ q cde sh sp ld nm nk tx mn ds ct co st at0 ha tk) (fun u => some (.int (nI 0)))) 0 0 (k_A (wm cI cZ q th sh sp ld nm nk tx mn ds ct co st at0 ha tk)) := by
  refine k_head (cc := cX1_fails) (maxL := 2) (ret := (some .int)) [(0, .ref (q 0)), (1, .int cde)] (by decide) rfl (Nat.le_of_ble_eq_true rfl) rfl ?_
  intro p e s m below meth c ls hx hb hr hml hown hts hlocks hname hB hl
  have hown : s.vm.findClass RX1 = some m.cls := hown
  obtain ⟨hP, hK⟩ := hB
  have hin : ∀ w ∈ wsX10, w ∈ wsX1_fails := fun w h => List.mem_cons_of_mem _ (List.mem_append_right _ h)
  have hD := k_A_D hDt
  have hS : va_S (k_A (wm cI cZ q th sh sp ld nm nk tx mn ds ct co st at0 ha tk)) s.heap s.heap [] := va_S.rf
  refine lv_aload_n hx hb dX1_fails_0 rfl (lv_at hl 0 rfl) ?_
  refine lv_iload_n hx hb dX1_fails_1 rfl (lv_at hl 1 rfl) ?_
  refine va_put (D := D) (ci := 1) (v := .int cde) (ty := .int) (C := RX1) (T := TX1) (N := 15) hx hb hts hin tyX1 tyX1_ok nmX1 hown hK hP hD hS 0 rfl rfl 0 (by decide) (hts (.fieldLink RX1 41 "SignRailModel" "thrown" "I") (by decide +kernel)) (fun _ h9 => h9) rfl (by decide +kernel) (rfl) (rfl) (Nat.le_of_ble_eq_true rfl) dX1_fails_2 (fun H locs hP hD hS => ?_)
  have hP : va_P D vwCl (wm cI cZ q cde sh sp ld nm nk tx mn ds ct co st at0 ha tk) H := hP
  have hD : va_D _ (wm cI cZ q cde sh sp ld nm nk tx mn ds ct co st at0 ha tk) := hD
  refine lv_iconst (v := nI 0) hx hb dX1_fails_5 (by decide) ?_
  exact k_wiret (())  hx hb hr hlocks dX1_fails_6 (trivial) rfl hP hS (Nat.le_of_ble_eq_true rfl) (Nat.le_of_ble_eq_true rfl)
set_option maxHeartbeats 4000000 in
set_option maxRecDepth 100000 in
theorem c_X1_thrown (l : Launch) (D : va_G) (cI cZ : ClassId) (q : Nat → Nat) (th : Int32) (sh sp ld nm nk tx mn ds ct : Nat → Int32) (co : Int64) (st at0 ha : Int32) (tk : Nat → Int32) : k_M l yX1_thrown wsX1_thrown ({ frames := 0, cells := 0, slots := 0, locals := 0 } : Room) [.ref (q 0)] (k_B D (wm cI cZ q th sh sp ld nm nk tx mn ds ct co st at0 ha tk) [(cI, .int), (cZ, .boolean)]) (some (.int (th))) := by
  refine k_head (cc := cX1_thrown) (maxL := 1) (ret := some .int) [(0, .ref (q 0))] (by decide) rfl (Nat.le_of_ble_eq_true rfl) rfl ?_
  intro p e s m below meth c ls hx hb hr hml hown hts hlocks hname hB hl
  have hown : s.vm.findClass RX1 = some m.cls := hown
  obtain ⟨hP, hK⟩ := hB
  have hin : ∀ w ∈ wsX10, w ∈ wsX1_thrown := fun w h => List.mem_cons_of_mem _ (List.mem_append_right _ h)
  refine lv_aload_n hx hb dX1_thrown_0 rfl (lv_at hl 0 rfl) ?_
  refine va_get (D := D) (ci := 1) (v := .int th) (C := RX1) (T := TX1) (N := 15) hx hb hts hin hown hK hP 0 rfl rfl 0 (by decide) (hts (.fieldLink RX1 41 "SignRailModel" "thrown" "I") (by decide +kernel)) (fun _ h9 => h9) rfl dX1_thrown_1 ?_
  exact k_iret hx hb hr hlocks dX1_thrown_4 (rfl)
set_option maxHeartbeats 4000000 in
set_option maxRecDepth 100000 in
theorem c_X1_difference (l : Launch) (D : va_G) (cI cZ : ClassId) (q : Nat → Nat) (th : Int32) (sh sp ld nm nk tx mn ds ct : Nat → Int32) (co : Int64) (st at0 ha : Int32) (tk : Nat → Int32) (i j : Int32) (hDt : va_D (fun _ => True) (wm cI cZ q th sh sp ld nm nk tx mn ds ct co st at0 ha tk)) : Met l yX1_difference wsX1_difference ({ frames := 2, cells := 0, slots := 0, locals := 42 } : Room) (k_P [.ref (q 0), .int i, .int j] (k_B D (wm cI cZ q th sh sp ld nm nk tx mn ds ct co st at0 ha tk) [(cI, .int), (cZ, .boolean)])) (k_WQ D (wm cI cZ q th sh sp ld nm nk tx mn ds ct co st at0 ha tk) (fun u : Int32 × Option (Nat × Nat) => u.1 = nI (cd1 (inB i 8 && inB j 8)) ∧ u.2.elim (cd1 (inB i 8 && inB j 8) ≠ 0) (fun v => cd1 (inB i 8 && inB j 8) = 0 ∧ v.1 < 8 ∧ i = nI v.1 ∧ v.2 < 8 ∧ j = nI v.2)) (fun u => wm cI cZ q u.1 sh sp ld nm nk tx mn ds ct co st at0 ha tk) (fun u => some (.int (u.2.elim (nI 0) (fun v => df (sh v.1) (sh v.2)))))) 0 0 (k_A (wm cI cZ q th sh sp ld nm nk tx mn ds ct co st at0 ha tk)) := by
  refine k_head (cc := cX1_difference) (maxL := 3) (ret := (some .int)) [(0, .ref (q 0)), (1, .int i), (2, .int j)] (by decide) rfl (Nat.le_of_ble_eq_true rfl) rfl ?_
  intro p e s m below meth c ls hx hb hr hml hown hts hlocks hname hB hl
  have hown : s.vm.findClass RX1 = some m.cls := hown
  obtain ⟨hP, hK⟩ := hB
  have hin : ∀ w ∈ wsX10, w ∈ wsX1_difference := fun w h => List.mem_cons_of_mem _ (List.mem_append_right _ h)
  have hD := k_A_D hDt
  have hS : va_S (k_A (wm cI cZ q th sh sp ld nm nk tx mn ds ct co st at0 ha tk)) s.heap s.heap [] := va_S.rf
  refine lv_aload_n hx hb dX1_difference_0 rfl (lv_at hl 0 rfl) ?_
  refine lv_iconst (v := nI 0) hx hb dX1_difference_1 (by decide) ?_
  refine va_put (D := D) (ci := 1) (v := .int (nI 0)) (ty := .int) (C := RX1) (T := TX1) (N := 15) hx hb hts hin tyX1 tyX1_ok nmX1 hown hK hP hD hS 0 rfl rfl 0 (by decide) (hts (.fieldLink RX1 41 "SignRailModel" "thrown" "I") (by decide +kernel)) (fun _ h9 => h9) rfl (by decide +kernel) (rfl) (rfl) (Nat.le_of_ble_eq_true rfl) dX1_difference_2 (fun H locs hP hD hS => ?_)
  have hP : va_P D vwCl (wm cI cZ q (nI 0) sh sp ld nm nk tx mn ds ct co st at0 ha tk) H := hP
  have hD : va_D _ (wm cI cZ q (nI 0) sh sp ld nm nk tx mn ds ct co st at0 ha tk) := hD
  refine lv_iload_n hx hb dX1_difference_5 rfl (lv_at hl 1 rfl) ?_
  refine k_callSi (As := [.int i]) (rest := []) ⟨hx, hb, hml, hown, hts⟩ (c_X1_isGlyph l i) (va_cwS 1 hts gX1_difference_X1_isGlyph rfl rfl rfl (by decide +kernel) ⟨Nat.le_of_ble_eq_true rfl, Nat.le_of_ble_eq_true rfl⟩) k_bl_tt (fun _ _ _ => trivial) rfl hl.1 rfl (Nat.le_of_ble_eq_true rfl) dX1_difference_6 ⟨Nat.zero_le _, Nat.zero_le _⟩ ?_
  refine b_if_eq (tgt := 38) hx hb dX1_difference_9 (by decide) (fun c_9 => ?_) (fun c_9 => ?_)
  · refine lv_aload_n hx hb dX1_difference_38 rfl (lv_at hl 0 rfl) ?_
    refine lv_iconst (v := nI 1) hx hb dX1_difference_39 (by decide) ?_
    refine k_callVW (wr := []) (As := [.int (nI 1)]) (rest := []) ⟨hx, hb, hml, hown, hts⟩ (c_X1_fails l D cI cZ q (nI 0) sh sp ld nm nk tx mn ds ct co st at0 ha tk (nI 1) (k_D_tt hD)) (cwV 1 hts gX1_difference_X1_fails rfl rfl rfl (by decide +kernel) ⟨Nat.le_of_ble_eq_true rfl, Nat.le_of_ble_eq_true rfl⟩) k_B_bl (k_B_of hP hK) (va_recv hK hP (ci := 1) (q0 := 0) rfl rfl) rfl hl.1 rfl (Nat.le_of_ble_eq_true rfl) dX1_difference_40 ⟨Nat.le_of_ble_eq_true rfl, Nat.le_of_ble_eq_true rfl⟩ hP hD hS [] [0, 1, 2, 3, 4, 5, 6, 7, 8, 9, 10] rfl rfl (fun _ => rfl) (fun u_40 H locs hu_40 hP hD hS hsz hkp => ?_)
    have hP : va_P D vwCl (wm cI cZ q (nI 1) sh sp ld nm nk tx mn ds ct co st at0 ha tk) H := hP
    have hD : va_D _ (wm cI cZ q (nI 1) sh sp ld nm nk tx mn ds ct co st at0 ha tk) := hD
    exact k_wiret (nI 1, none)  hx hb hr hlocks dX1_difference_43 (k_no (cd1_1 (by first | exact and_l c_9 | exact and_r c_16)) (by decide)) rfl hP hS (Nat.le_of_ble_eq_true rfl) (Nat.le_of_ble_eq_true rfl)
  · obtain ⟨i', hi', rfl⟩ := inB_ex (by decide) (c_9)
    refine lv_iload_n hx hb dX1_difference_12 rfl (lv_at hl 2 rfl) ?_
    refine k_callSi (As := [.int j]) (rest := []) ⟨hx, hb, hml, hown, hts⟩ (c_X1_isGlyph l j) (va_cwS 1 hts gX1_difference_X1_isGlyph rfl rfl rfl (by decide +kernel) ⟨Nat.le_of_ble_eq_true rfl, Nat.le_of_ble_eq_true rfl⟩) k_bl_tt (fun _ _ _ => trivial) rfl hl.1 rfl (Nat.le_of_ble_eq_true rfl) dX1_difference_13 ⟨Nat.zero_le _, Nat.zero_le _⟩ ?_
    refine b_if_eq (tgt := 38) hx hb dX1_difference_16 (by decide) (fun c_16 => ?_) (fun c_16 => ?_)
    · refine lv_aload_n hx hb dX1_difference_38 rfl (lv_at hl 0 rfl) ?_
      refine lv_iconst (v := nI 1) hx hb dX1_difference_39 (by decide) ?_
      refine k_callVW (wr := []) (As := [.int (nI 1)]) (rest := []) ⟨hx, hb, hml, hown, hts⟩ (c_X1_fails l D cI cZ q (nI 0) sh sp ld nm nk tx mn ds ct co st at0 ha tk (nI 1) (k_D_tt hD)) (cwV 1 hts gX1_difference_X1_fails rfl rfl rfl (by decide +kernel) ⟨Nat.le_of_ble_eq_true rfl, Nat.le_of_ble_eq_true rfl⟩) k_B_bl (k_B_of hP hK) (va_recv hK hP (ci := 1) (q0 := 0) rfl rfl) rfl hl.1 rfl (Nat.le_of_ble_eq_true rfl) dX1_difference_40 ⟨Nat.le_of_ble_eq_true rfl, Nat.le_of_ble_eq_true rfl⟩ hP hD hS [] [0, 1, 2, 3, 4, 5, 6, 7, 8, 9, 10] rfl rfl (fun _ => rfl) (fun u_40 H locs hu_40 hP hD hS hsz hkp => ?_)
      have hP : va_P D vwCl (wm cI cZ q (nI 1) sh sp ld nm nk tx mn ds ct co st at0 ha tk) H := hP
      have hD : va_D _ (wm cI cZ q (nI 1) sh sp ld nm nk tx mn ds ct co st at0 ha tk) := hD
      exact k_wiret (nI 1, none)  hx hb hr hlocks dX1_difference_43 (k_no (cd1_1 (by first | exact and_l c_9 | exact and_r c_16)) (by decide)) rfl hP hS (Nat.le_of_ble_eq_true rfl) (Nat.le_of_ble_eq_true rfl)
    · obtain ⟨j', hj', rfl⟩ := inB_ex (by decide) (c_16)
      refine lv_aload_n hx hb dX1_difference_19 rfl (lv_at hl 0 rfl) ?_
      refine va_get (D := D) (ci := 1) (v := .ref (q 1)) (C := RX1) (T := TX1) (N := 15) hx hb hts hin hown hK hP 0 rfl rfl 1 (by decide) (hts (.fieldLink RX1 7 "SignRailModel" "shapes" "[I") (by decide +kernel)) (fun _ h9 => h9) rfl dX1_difference_20 ?_
      refine lv_iload_n hx hb dX1_difference_23 rfl (lv_at hl 1 rfl) ?_
      refine n_iald hx hb hK hP 1 0 rfl rfl (k := i') (by omega) (Nat.le_of_ble_eq_true rfl) dX1_difference_24 ?_
      refine lv_aload_n hx hb dX1_difference_25 rfl (lv_at hl 0 rfl) ?_
      refine va_get (D := D) (ci := 1) (v := .ref (q 1)) (C := RX1) (T := TX1) (N := 15) hx hb hts hin hown hK hP 0 rfl rfl 1 (by decide) (hts (.fieldLink RX1 7 "SignRailModel" "shapes" "[I") (by decide +kernel)) (fun _ h9 => h9) rfl dX1_difference_26 ?_
      refine lv_iload_n hx hb dX1_difference_29 rfl (lv_at hl 2 rfl) ?_
      refine n_iald hx hb hK hP 1 0 rfl rfl (k := j') (by omega) (Nat.le_of_ble_eq_true rfl) dX1_difference_30 ?_
      refine lv_ixor hx hb dX1_difference_31 ?_
      refine k_callSi (As := [.int ((sh i') ^^^ (sh j'))]) (rest := []) ⟨hx, hb, hml, hown, hts⟩ (c_X1_bits l ((sh i') ^^^ (sh j'))) (va_cwS 1 hts gX1_difference_X1_bits rfl rfl rfl (by decide +kernel) ⟨Nat.le_of_ble_eq_true rfl, Nat.le_of_ble_eq_true rfl⟩) k_bl_tt (fun _ _ _ => trivial) rfl hl.1 rfl (Nat.le_of_ble_eq_true rfl) dX1_difference_32 ⟨Nat.zero_le _, Nat.zero_le _⟩ ?_
      refine lv_goto (tgt := 43) hx hb dX1_difference_35 (by decide) ?_
      exact k_wiret (nI 0, some (i', j'))  hx hb hr hlocks dX1_difference_43 (⟨(congrArg nI (cd1_0 (and_t c_9 c_16))).symm, (cd1_0 (and_t c_9 c_16)), hi', rfl, hj', rfl⟩) rfl hP hS (Nat.le_of_ble_eq_true rfl) (Nat.le_of_ble_eq_true rfl)
set_option maxHeartbeats 4000000 in
set_option maxRecDepth 100000 in
theorem c_X1_width (l : Launch) (D : va_G) (cI cZ : ClassId) (q : Nat → Nat) (th : Int32) (sh sp ld nm nk tx mn ds ct : Nat → Int32) (co : Int64) (st at0 ha : Int32) (tk : Nat → Int32) (g : Int32) (hDt : va_D (fun _ => True) (wm cI cZ q th sh sp ld nm nk tx mn ds ct co st at0 ha tk)) : Met l yX1_width wsX1_width ({ frames := 2, cells := 0, slots := 0, locals := 42 } : Room) (k_P [.ref (q 0), .int g] (k_B D (wm cI cZ q th sh sp ld nm nk tx mn ds ct co st at0 ha tk) [(cI, .int), (cZ, .boolean)])) (k_WQ D (wm cI cZ q th sh sp ld nm nk tx mn ds ct co st at0 ha tk) (fun u : Int32 × Option (Nat) => u.1 = nI (cd1 (inB g 8)) ∧ u.2.elim (cd1 (inB g 8) ≠ 0) (fun v => cd1 (inB g 8) = 0 ∧ v < 8 ∧ g = nI v)) (fun u => wm cI cZ q u.1 sh sp ld nm nk tx mn ds ct co st at0 ha tk) (fun u => some (.int (u.2.elim (nI 0) (fun v => wdF (hcW (sh v))))))) 0 0 (k_A (wm cI cZ q th sh sp ld nm nk tx mn ds ct co st at0 ha tk)) := by
  refine k_head (cc := cX1_width) (maxL := 2) (ret := (some .int)) [(0, .ref (q 0)), (1, .int g)] (by decide) rfl (Nat.le_of_ble_eq_true rfl) rfl ?_
  intro p e s m below meth c ls hx hb hr hml hown hts hlocks hname hB hl
  have hown : s.vm.findClass RX1 = some m.cls := hown
  obtain ⟨hP, hK⟩ := hB
  have hin : ∀ w ∈ wsX10, w ∈ wsX1_width := fun w h => List.mem_cons_of_mem _ (List.mem_append_right _ h)
  have hD := k_A_D hDt
  have hS : va_S (k_A (wm cI cZ q th sh sp ld nm nk tx mn ds ct co st at0 ha tk)) s.heap s.heap [] := va_S.rf
  refine lv_aload_n hx hb dX1_width_0 rfl (lv_at hl 0 rfl) ?_
  refine lv_iconst (v := nI 0) hx hb dX1_width_1 (by decide) ?_
  refine va_put (D := D) (ci := 1) (v := .int (nI 0)) (ty := .int) (C := RX1) (T := TX1) (N := 15) hx hb hts hin tyX1 tyX1_ok nmX1 hown hK hP hD hS 0 rfl rfl 0 (by decide) (hts (.fieldLink RX1 41 "SignRailModel" "thrown" "I") (by decide +kernel)) (fun _ h9 => h9) rfl (by decide +kernel) (rfl) (rfl) (Nat.le_of_ble_eq_true rfl) dX1_width_2 (fun H locs hP hD hS => ?_)
  have hP : va_P D vwCl (wm cI cZ q (nI 0) sh sp ld nm nk tx mn ds ct co st at0 ha tk) H := hP
  have hD : va_D _ (wm cI cZ q (nI 0) sh sp ld nm nk tx mn ds ct co st at0 ha tk) := hD
  refine lv_iload_n hx hb dX1_width_5 rfl (lv_at hl 1 rfl) ?_
  refine k_callSi (As := [.int g]) (rest := []) ⟨hx, hb, hml, hown, hts⟩ (c_X1_isGlyph l g) (va_cwS 1 hts gX1_width_X1_isGlyph rfl rfl rfl (by decide +kernel) ⟨Nat.le_of_ble_eq_true rfl, Nat.le_of_ble_eq_true rfl⟩) k_bl_tt (fun _ _ _ => trivial) rfl hl.1 rfl (Nat.le_of_ble_eq_true rfl) dX1_width_6 ⟨Nat.zero_le _, Nat.zero_le _⟩ ?_
  refine b_if_eq (tgt := 20) hx hb dX1_width_9 (by decide) (fun c_9 => ?_) (fun c_9 => ?_)
  · refine lv_aload_n hx hb dX1_width_20 rfl (lv_at hl 0 rfl) ?_
    refine lv_iconst (v := nI 1) hx hb dX1_width_21 (by decide) ?_
    refine k_callVW (wr := []) (As := [.int (nI 1)]) (rest := []) ⟨hx, hb, hml, hown, hts⟩ (c_X1_fails l D cI cZ q (nI 0) sh sp ld nm nk tx mn ds ct co st at0 ha tk (nI 1) (k_D_tt hD)) (cwV 1 hts gX1_width_X1_fails rfl rfl rfl (by decide +kernel) ⟨Nat.le_of_ble_eq_true rfl, Nat.le_of_ble_eq_true rfl⟩) k_B_bl (k_B_of hP hK) (va_recv hK hP (ci := 1) (q0 := 0) rfl rfl) rfl hl.1 rfl (Nat.le_of_ble_eq_true rfl) dX1_width_22 ⟨Nat.le_of_ble_eq_true rfl, Nat.le_of_ble_eq_true rfl⟩ hP hD hS [] [0, 1, 2, 3, 4, 5, 6, 7, 8, 9, 10] rfl rfl (fun _ => rfl) (fun u_22 H locs hu_22 hP hD hS hsz hkp => ?_)
    have hP : va_P D vwCl (wm cI cZ q (nI 1) sh sp ld nm nk tx mn ds ct co st at0 ha tk) H := hP
    have hD : va_D _ (wm cI cZ q (nI 1) sh sp ld nm nk tx mn ds ct co st at0 ha tk) := hD
    exact k_wiret (nI 1, none)  hx hb hr hlocks dX1_width_25 (k_no (cd1_1 c_9) (by decide)) rfl hP hS (Nat.le_of_ble_eq_true rfl) (Nat.le_of_ble_eq_true rfl)
  · obtain ⟨g', hg', rfl⟩ := inB_ex (by decide) (c_9)
    refine lv_aload_n hx hb dX1_width_12 rfl (lv_at hl 0 rfl) ?_
    refine lv_iload_n hx hb dX1_width_13 rfl (lv_at hl 1 rfl) ?_
    refine k_callVi (As := [.int (nI g')]) (rest := []) ⟨hx, hb, hml, hown, hts⟩ (c_X1_widthOf l D cI cZ q (nI 0) sh sp ld nm nk tx mn ds ct co st at0 ha tk g' hg') (cwV 1 hts gX1_width_X1_widthOf rfl rfl rfl (by decide +kernel) ⟨Nat.le_of_ble_eq_true rfl, Nat.le_of_ble_eq_true rfl⟩) k_B_bl (k_B_of hP hK) (va_recv hK hP (ci := 1) (q0 := 0) rfl rfl) rfl hl.1 rfl (Nat.le_of_ble_eq_true rfl) dX1_width_14 ⟨Nat.zero_le _, Nat.zero_le _⟩ ?_
    refine lv_goto (tgt := 25) hx hb dX1_width_17 (by decide) ?_
    exact k_wiret (nI 0, some (g'))  hx hb hr hlocks dX1_width_25 (⟨(congrArg nI (cd1_0 c_9)).symm, (cd1_0 c_9), hg', rfl⟩) rfl hP hS (Nat.le_of_ble_eq_true rfl) (Nat.le_of_ble_eq_true rfl)
set_option maxHeartbeats 4000000 in
set_option maxRecDepth 100000 in
theorem c_X1_space (l : Launch) (D : va_G) (cI cZ : ClassId) (q : Nat → Nat) (th : Int32) (sh sp ld nm nk tx mn ds ct : Nat → Int32) (co : Int64) (st at0 ha : Int32) (tk : Nat → Int32) (i j v0 : Int32) (hDt : va_D (fun _ => True) (wm cI cZ q th sh sp ld nm nk tx mn ds ct co st at0 ha tk)) : Met l yX1_space wsX1_space ({ frames := 2, cells := 0, slots := 0, locals := 42 } : Room) (k_P [.ref (q 0), .int i, .int j, .int v0] (k_B D (wm cI cZ q th sh sp ld nm nk tx mn ds ct co st at0 ha tk) [(cI, .int), (cZ, .boolean)])) (k_WQ D (wm cI cZ q th sh sp ld nm nk tx mn ds ct co st at0 ha tk) (fun u : Int32 × Option (Nat × Nat) => u.1 = nI (cd2 (inB i 8 && inB j 8) (rgB v0 (-1) (nI 3))) ∧ u.2.elim (cd2 (inB i 8 && inB j 8) (rgB v0 (-1) (nI 3)) ≠ 0) (fun v => cd2 (inB i 8 && inB j 8) (rgB v0 (-1) (nI 3)) = 0 ∧ v.1 < 8 ∧ i = nI v.1 ∧ v.2 < 8 ∧ j = nI v.2)) (fun u => wm cI cZ q u.1 sh (u.2.elim sp (fun v => upd sp (8 * v.1 + v.2) v0)) ld nm nk tx mn ds ct co st at0 ha tk) (fun u => some (.int (u.2.elim (nI 0) (fun v => sp (8 * v.1 + v.2)))))) 0 0 (k_A (wm cI cZ q th sh sp ld nm nk tx mn ds ct co st at0 ha tk)) := by
  refine k_head (cc := cX1_space) (maxL := 5) (ret := (some .int)) [(0, .ref (q 0)), (1, .int i), (2, .int j), (3, .int v0)] (by decide) rfl (Nat.le_of_ble_eq_true rfl) rfl ?_
  intro p e s m below meth c ls hx hb hr hml hown hts hlocks hname hB hl
  have hown : s.vm.findClass RX1 = some m.cls := hown
  obtain ⟨hP, hK⟩ := hB
  have hin : ∀ w ∈ wsX10, w ∈ wsX1_space := fun w h => List.mem_cons_of_mem _ (List.mem_append_right _ h)
  have hD := k_A_D hDt
  have hS : va_S (k_A (wm cI cZ q th sh sp ld nm nk tx mn ds ct co st at0 ha tk)) s.heap s.heap [] := va_S.rf
  refine lv_aload_n hx hb dX1_space_0 rfl (lv_at hl 0 rfl) ?_
  refine lv_iload_n hx hb dX1_space_1 rfl (lv_at hl 1 rfl) ?_
  refine k_callSi (As := [.int i]) (rest := [.ref (q 0)]) ⟨hx, hb, hml, hown, hts⟩ (c_X1_isGlyph l i) (va_cwS 1 hts gX1_space_X1_isGlyph rfl rfl rfl (by decide +kernel) ⟨Nat.le_of_ble_eq_true rfl, Nat.le_of_ble_eq_true rfl⟩) k_bl_tt (fun _ _ _ => trivial) rfl hl.1 rfl (Nat.le_of_ble_eq_true rfl) dX1_space_2 ⟨Nat.zero_le _, Nat.zero_le _⟩ ?_
  refine b_if_eq (tgt := 15) hx hb dX1_space_5 (by decide) (fun c_5 => ?_) (fun c_5 => ?_)
  · refine lv_iconst (v := nI 1) hx hb dX1_space_15 (by decide) ?_
    refine lv_goto (tgt := 33) hx hb dX1_space_16 (by decide) ?_
    refine va_put (D := D) (ci := 1) (v := .int (nI 1)) (ty := .int) (C := RX1) (T := TX1) (N := 15) hx hb hts hin tyX1 tyX1_ok nmX1 hown hK hP hD hS 0 rfl rfl 0 (by decide) (hts (.fieldLink RX1 41 "SignRailModel" "thrown" "I") (by decide +kernel)) (fun _ h9 => h9) rfl (by decide +kernel) (rfl) (rfl) (Nat.le_of_ble_eq_true rfl) dX1_space_33 (fun H locs hP hD hS => ?_)
    have hP : va_P D vwCl (wm cI cZ q (nI 1) sh sp ld nm nk tx mn ds ct co st at0 ha tk) H := hP
    have hD : va_D _ (wm cI cZ q (nI 1) sh sp ld nm nk tx mn ds ct co st at0 ha tk) := hD
    refine lv_aload_n hx hb dX1_space_36 rfl (lv_at hl 0 rfl) ?_
    refine va_get (D := D) (ci := 1) (v := .int (nI 1)) (C := RX1) (T := TX1) (N := 15) hx hb hts hin hown hK hP 0 rfl rfl 0 (by decide) (hts (.fieldLink RX1 41 "SignRailModel" "thrown" "I") (by decide +kernel)) (fun _ h9 => h9) rfl dX1_space_37 ?_
    refine n_if_le (tgt := 45) hx hb dX1_space_40 (by decide) (by decide) (fun c_40 => absurd c_40 (by decide)) (fun _ => ?_)
    refine lv_iconst (v := nI 0) hx hb dX1_space_43 (by decide) ?_
    exact k_wiret (nI 1, none)  hx hb hr hlocks dX1_space_44 (k_no (cd2_1 (by first | exact and_l c_5 | exact and_r c_12)) (by decide)) rfl hP hS (Nat.le_of_ble_eq_true rfl) (Nat.le_of_ble_eq_true rfl)
  · obtain ⟨i', hi', rfl⟩ := inB_ex (by decide) (c_5)
    refine lv_iload_n hx hb dX1_space_8 rfl (lv_at hl 2 rfl) ?_
    refine k_callSi (As := [.int j]) (rest := [.ref (q 0)]) ⟨hx, hb, hml, hown, hts⟩ (c_X1_isGlyph l j) (va_cwS 1 hts gX1_space_X1_isGlyph rfl rfl rfl (by decide +kernel) ⟨Nat.le_of_ble_eq_true rfl, Nat.le_of_ble_eq_true rfl⟩) k_bl_tt (fun _ _ _ => trivial) rfl hl.1 rfl (Nat.le_of_ble_eq_true rfl) dX1_space_9 ⟨Nat.zero_le _, Nat.zero_le _⟩ ?_
    refine b_if_ne (tgt := 19) hx hb dX1_space_12 (by decide) (fun c_12 => ?_) (fun c_12 => ?_)
    · obtain ⟨j', hj', rfl⟩ := inB_ex (by decide) (c_12)
      refine lv_iload_n hx hb dX1_space_19 rfl (lv_at hl 3 rfl) ?_
      refine lv_iconst (v := (-1)) hx hb dX1_space_20 (by decide) ?_
      refine lv_iconst (v := nI 3) hx hb dX1_space_21 (by decide) ?_
      refine k_callSi (As := [.int v0, .int (-1), .int (nI 3)]) (rest := [.ref (q 0)]) ⟨hx, hb, hml, hown, hts⟩ (c_X1_in l v0 (-1) (nI 3)) (va_cwS 3 hts gX1_space_X1_in rfl rfl rfl (by decide +kernel) ⟨Nat.le_of_ble_eq_true rfl, Nat.le_of_ble_eq_true rfl⟩) k_bl_tt (fun _ _ _ => trivial) rfl hl.1 rfl (Nat.le_of_ble_eq_true rfl) dX1_space_22 ⟨Nat.zero_le _, Nat.zero_le _⟩ ?_
      refine b_if_eq (tgt := 32) hx hb dX1_space_25 (by decide) (fun c_25 => ?_) (fun c_25 => ?_)
      · refine lv_iconst (v := nI 2) hx hb dX1_space_32 (by decide) ?_
        refine va_put (D := D) (ci := 1) (v := .int (nI 2)) (ty := .int) (C := RX1) (T := TX1) (N := 15) hx hb hts hin tyX1 tyX1_ok nmX1 hown hK hP hD hS 0 rfl rfl 0 (by decide) (hts (.fieldLink RX1 41 "SignRailModel" "thrown" "I") (by decide +kernel)) (fun _ h9 => h9) rfl (by decide +kernel) (rfl) (rfl) (Nat.le_of_ble_eq_true rfl) dX1_space_33 (fun H locs hP hD hS => ?_)
        have hP : va_P D vwCl (wm cI cZ q (nI 2) sh sp ld nm nk tx mn ds ct co st at0 ha tk) H := hP
        have hD : va_D _ (wm cI cZ q (nI 2) sh sp ld nm nk tx mn ds ct co st at0 ha tk) := hD
        refine lv_aload_n hx hb dX1_space_36 rfl (lv_at hl 0 rfl) ?_
        refine va_get (D := D) (ci := 1) (v := .int (nI 2)) (C := RX1) (T := TX1) (N := 15) hx hb hts hin hown hK hP 0 rfl rfl 0 (by decide) (hts (.fieldLink RX1 41 "SignRailModel" "thrown" "I") (by decide +kernel)) (fun _ h9 => h9) rfl dX1_space_37 ?_
        refine n_if_le (tgt := 45) hx hb dX1_space_40 (by decide) (by decide) (fun c_40 => absurd c_40 (by decide)) (fun _ => ?_)
        refine lv_iconst (v := nI 0) hx hb dX1_space_43 (by decide) ?_
        exact k_wiret (nI 2, none)  hx hb hr hlocks dX1_space_44 (k_no (cd2_2 (and_t c_5 c_12) c_25) (by decide)) rfl hP hS (Nat.le_of_ble_eq_true rfl) (Nat.le_of_ble_eq_true rfl)
      · refine lv_iconst (v := nI 0) hx hb dX1_space_28 (by decide) ?_
        refine lv_goto (tgt := 33) hx hb dX1_space_29 (by decide) ?_
        refine va_put (D := D) (ci := 1) (v := .int (nI 0)) (ty := .int) (C := RX1) (T := TX1) (N := 15) hx hb hts hin tyX1 tyX1_ok nmX1 hown hK hP hD hS 0 rfl rfl 0 (by decide) (hts (.fieldLink RX1 41 "SignRailModel" "thrown" "I") (by decide +kernel)) (fun _ h9 => h9) rfl (by decide +kernel) (rfl) (rfl) (Nat.le_of_ble_eq_true rfl) dX1_space_33 (fun H locs hP hD hS => ?_)
        have hP : va_P D vwCl (wm cI cZ q (nI 0) sh sp ld nm nk tx mn ds ct co st at0 ha tk) H := hP
        have hD : va_D _ (wm cI cZ q (nI 0) sh sp ld nm nk tx mn ds ct co st at0 ha tk) := hD
        refine lv_aload_n hx hb dX1_space_36 rfl (lv_at hl 0 rfl) ?_
        refine va_get (D := D) (ci := 1) (v := .int (nI 0)) (C := RX1) (T := TX1) (N := 15) hx hb hts hin hown hK hP 0 rfl rfl 0 (by decide) (hts (.fieldLink RX1 41 "SignRailModel" "thrown" "I") (by decide +kernel)) (fun _ h9 => h9) rfl dX1_space_37 ?_
        refine n_if_le (tgt := 45) hx hb dX1_space_40 (by decide) (by decide) (fun _ => ?_) (fun c_40 => absurd c_40 (by decide))
        refine lv_aload_n hx hb dX1_space_45 rfl (lv_at hl 0 rfl) ?_
        refine va_get (D := D) (ci := 1) (v := .ref (q 2)) (C := RX1) (T := TX1) (N := 15) hx hb hts hin hown hK hP 0 rfl rfl 2 (by decide) (hts (.fieldLink RX1 13 "SignRailModel" "spaces" "[I") (by decide +kernel)) (fun _ h9 => h9) rfl dX1_space_46 ?_
        refine lv_bipush (v := nI 8) hx hb dX1_space_49 (by decide) ?_
        refine lv_iload_n hx hb dX1_space_51 rfl (lv_at hl 1 rfl) ?_
        refine lv_imul hx hb dX1_space_52 ?_
        refine lv_as (y := nI (8 * i')) (pk_mul _ _) ?_
        refine lv_iload_n hx hb dX1_space_53 rfl (lv_at hl 2 rfl) ?_
        refine lv_iadd hx hb dX1_space_54 ?_
        refine lv_as (y := nI ((8 * i') + j')) (nI_add _ _) ?_
        refine n_iald hx hb hK hP 2 0 rfl rfl (k := ((8 * i') + j')) (by omega) (Nat.le_of_ble_eq_true rfl) dX1_space_55 ?_
        refine lv_istore (lv' := [(4, .int (sp ((8 * i') + j'))), (0, .ref (q 0)), (1, .int (nI i')), (2, .int (nI j')), (3, .int v0)]) hx hb dX1_space_56 hl (by decide) rfl (fun ls hl => ?_)
        refine lv_aload_n hx hb dX1_space_58 rfl (lv_at hl 1 rfl) ?_
        refine va_get (D := D) (ci := 1) (v := .ref (q 2)) (C := RX1) (T := TX1) (N := 15) hx hb hts hin hown hK hP 0 rfl rfl 2 (by decide) (hts (.fieldLink RX1 13 "SignRailModel" "spaces" "[I") (by decide +kernel)) (fun _ h9 => h9) rfl dX1_space_59 ?_
        refine lv_bipush (v := nI 8) hx hb dX1_space_62 (by decide) ?_
        refine lv_iload_n hx hb dX1_space_64 rfl (lv_at hl 2 rfl) ?_
        refine lv_imul hx hb dX1_space_65 ?_
        refine lv_as (y := nI (8 * i')) (pk_mul _ _) ?_
        refine lv_iload_n hx hb dX1_space_66 rfl (lv_at hl 3 rfl) ?_
        refine lv_iadd hx hb dX1_space_67 ?_
        refine lv_as (y := nI ((8 * i') + j')) (nI_add _ _) ?_
        refine lv_iload_n hx hb dX1_space_68 rfl (lv_at hl 4 rfl) ?_
        refine n_iast hx hb hK hP hD hS 2 0 rfl rfl (k := ((8 * i') + j')) (by omega) (Nat.le_of_ble_eq_true rfl) dX1_space_69 (fun H locs hP hD hS => ?_)
        have hP : va_P D vwCl (wm cI cZ q (nI 0) sh (upd sp ((8 * i') + j') v0) ld nm nk tx mn ds ct co st at0 ha tk) H := hP
        have hD : va_D _ (wm cI cZ q (nI 0) sh (upd sp ((8 * i') + j') v0) ld nm nk tx mn ds ct co st at0 ha tk) := hD
        refine lv_iload hx hb dX1_space_70 (lv_at hl 0 rfl) ?_
        exact k_wiret (nI 0, some (i', j'))  hx hb hr hlocks dX1_space_72 (⟨(congrArg nI (cd2_0 (and_t c_5 c_12) c_25)).symm, (cd2_0 (and_t c_5 c_12) c_25), hi', rfl, hj', rfl⟩) rfl hP hS (Nat.le_of_ble_eq_true rfl) (Nat.le_of_ble_eq_true rfl)
    · refine lv_iconst (v := nI 1) hx hb dX1_space_15 (by decide) ?_
      refine lv_goto (tgt := 33) hx hb dX1_space_16 (by decide) ?_
      refine va_put (D := D) (ci := 1) (v := .int (nI 1)) (ty := .int) (C := RX1) (T := TX1) (N := 15) hx hb hts hin tyX1 tyX1_ok nmX1 hown hK hP hD hS 0 rfl rfl 0 (by decide) (hts (.fieldLink RX1 41 "SignRailModel" "thrown" "I") (by decide +kernel)) (fun _ h9 => h9) rfl (by decide +kernel) (rfl) (rfl) (Nat.le_of_ble_eq_true rfl) dX1_space_33 (fun H locs hP hD hS => ?_)
      have hP : va_P D vwCl (wm cI cZ q (nI 1) sh sp ld nm nk tx mn ds ct co st at0 ha tk) H := hP
      have hD : va_D _ (wm cI cZ q (nI 1) sh sp ld nm nk tx mn ds ct co st at0 ha tk) := hD
      refine lv_aload_n hx hb dX1_space_36 rfl (lv_at hl 0 rfl) ?_
      refine va_get (D := D) (ci := 1) (v := .int (nI 1)) (C := RX1) (T := TX1) (N := 15) hx hb hts hin hown hK hP 0 rfl rfl 0 (by decide) (hts (.fieldLink RX1 41 "SignRailModel" "thrown" "I") (by decide +kernel)) (fun _ h9 => h9) rfl dX1_space_37 ?_
      refine n_if_le (tgt := 45) hx hb dX1_space_40 (by decide) (by decide) (fun c_40 => absurd c_40 (by decide)) (fun _ => ?_)
      refine lv_iconst (v := nI 0) hx hb dX1_space_43 (by decide) ?_
      exact k_wiret (nI 1, none)  hx hb hr hlocks dX1_space_44 (k_no (cd2_1 (by first | exact and_l c_5 | exact and_r c_12)) (by decide)) rfl hP hS (Nat.le_of_ble_eq_true rfl) (Nat.le_of_ble_eq_true rfl)
set_option maxHeartbeats 4000000 in
set_option maxRecDepth 100000 in
theorem c_X1_lead (l : Launch) (D : va_G) (cI cZ : ClassId) (q : Nat → Nat) (th : Int32) (sh sp ld nm nk tx mn ds ct : Nat → Int32) (co : Int64) (st at0 ha : Int32) (tk : Nat → Int32) (p0 x0 to : Int32) (hDt : va_D (fun _ => True) (wm cI cZ q th sh sp ld nm nk tx mn ds ct co st at0 ha tk)) : Met l yX1_lead wsX1_lead ({ frames := 3, cells := 0, slots := 0, locals := 63 } : Room) (k_P [.ref (q 0), .int p0, .int x0, .int to] (k_B D (wm cI cZ q th sh sp ld nm nk tx mn ds ct co st at0 ha tk) [(cI, .int), (cZ, .boolean)])) (k_WQ D (wm cI cZ q th sh sp ld nm nk tx mn ds ct co st at0 ha tk) (fun u : Int32 × Option (Nat × Nat × Nat) => u.1 = nI (cd1 ((inB p0 8 && inB x0 4) && (decide (to = -1) || inB to 8))) ∧ u.2.elim (cd1 ((inB p0 8 && inB x0 4) && (decide (to = -1) || inB to 8)) ≠ 0) (fun v => cd1 ((inB p0 8 && inB x0 4) && (decide (to = -1) || inB to 8)) = 0 ∧ v.1 < 8 ∧ p0 = nI v.1 ∧ v.2.1 < 4 ∧ x0 = nI v.2.1 ∧ v.2.2 ≤ 8 ∧ to = ix v.2.2)) (fun u => wm cI cZ q u.1 sh sp (u.2.elim ld (fun v => upd ld (4 * v.1 + v.2.1) to)) nm nk tx mn ds ct co st at0 ha tk) (fun u => some (.int (u.2.elim (nI 0) (fun v => ld (4 * v.1 + v.2.1)))))) 0 0 (k_A (wm cI cZ q th sh sp ld nm nk tx mn ds ct co st at0 ha tk)) := by
  refine k_head (cc := cX1_lead) (maxL := 5) (ret := (some .int)) [(0, .ref (q 0)), (1, .int p0), (2, .int x0), (3, .int to)] (by decide) rfl (Nat.le_of_ble_eq_true rfl) rfl ?_
  intro p e s m below meth c ls hx hb hr hml hown hts hlocks hname hB hl
  have hown : s.vm.findClass RX1 = some m.cls := hown
  obtain ⟨hP, hK⟩ := hB
  have hin : ∀ w ∈ wsX10, w ∈ wsX1_lead := fun w h => List.mem_cons_of_mem _ (List.mem_append_right _ h)
  have hD := k_A_D hDt
  have hS : va_S (k_A (wm cI cZ q th sh sp ld nm nk tx mn ds ct co st at0 ha tk)) s.heap s.heap [] := va_S.rf
  refine lv_aload_n hx hb dX1_lead_0 rfl (lv_at hl 0 rfl) ?_
  refine lv_iload_n hx hb dX1_lead_1 rfl (lv_at hl 1 rfl) ?_
  refine lv_iload_n hx hb dX1_lead_2 rfl (lv_at hl 2 rfl) ?_
  refine k_callSi (As := [.int p0, .int x0]) (rest := [.ref (q 0)]) ⟨hx, hb, hml, hown, hts⟩ (c_X1_isExit l p0 x0) (va_cwS 2 hts gX1_lead_X1_isExit rfl rfl rfl (by decide +kernel) ⟨Nat.le_of_ble_eq_true rfl, Nat.le_of_ble_eq_true rfl⟩) k_bl_tt (fun _ _ _ => trivial) rfl hl.1 rfl (Nat.le_of_ble_eq_true rfl) dX1_lead_3 ⟨Nat.zero_le _, Nat.zero_le _⟩ ?_
  refine b_if_eq (tgt := 25) hx hb dX1_lead_6 (by decide) (fun c_6 => ?_) (fun c_6 => ?_)
  · refine lv_iconst (v := nI 1) hx hb dX1_lead_25 (by decide) ?_
    refine va_put (D := D) (ci := 1) (v := .int (nI 1)) (ty := .int) (C := RX1) (T := TX1) (N := 15) hx hb hts hin tyX1 tyX1_ok nmX1 hown hK hP hD hS 0 rfl rfl 0 (by decide) (hts (.fieldLink RX1 41 "SignRailModel" "thrown" "I") (by decide +kernel)) (fun _ h9 => h9) rfl (by decide +kernel) (rfl) (rfl) (Nat.le_of_ble_eq_true rfl) dX1_lead_26 (fun H locs hP hD hS => ?_)
    have hP : va_P D vwCl (wm cI cZ q (nI 1) sh sp ld nm nk tx mn ds ct co st at0 ha tk) H := hP
    have hD : va_D _ (wm cI cZ q (nI 1) sh sp ld nm nk tx mn ds ct co st at0 ha tk) := hD
    refine lv_aload_n hx hb dX1_lead_29 rfl (lv_at hl 0 rfl) ?_
    refine va_get (D := D) (ci := 1) (v := .int (nI 1)) (C := RX1) (T := TX1) (N := 15) hx hb hts hin hown hK hP 0 rfl rfl 0 (by decide) (hts (.fieldLink RX1 41 "SignRailModel" "thrown" "I") (by decide +kernel)) (fun _ h9 => h9) rfl dX1_lead_30 ?_
    refine n_if_le (tgt := 38) hx hb dX1_lead_33 (by decide) (by decide) (fun c_33 => absurd c_33 (by decide)) (fun _ => ?_)
    refine lv_iconst (v := nI 0) hx hb dX1_lead_36 (by decide) ?_
    exact k_wiret (nI 1, none)  hx hb hr hlocks dX1_lead_37 (k_no (cd1_1 (by first | exact and_l c_6 | exact and_r (by rw [c_18, decide_eq_false c_11]; rfl))) (by decide)) rfl hP hS (Nat.le_of_ble_eq_true rfl) (Nat.le_of_ble_eq_true rfl)
  · obtain ⟨he1, he2⟩ := Bool.and_eq_true_iff.mp c_6
    obtain ⟨p', hp', rfl⟩ := inB_ex (by decide) (he1)
    obtain ⟨x', hx', rfl⟩ := inB_ex (by decide) (he2)
    refine lv_iload_n hx hb dX1_lead_9 rfl (lv_at hl 3 rfl) ?_
    refine lv_iconst (v := (-1)) hx hb dX1_lead_10 (by decide) ?_
    refine lv_icmp_eq (tgt := 21) hx hb dX1_lead_11 (by decide) (fun c_11 => ?_) (fun c_11 => ?_)
    · refine lv_iconst (v := nI 0) hx hb dX1_lead_21 (by decide) ?_
      refine lv_goto (tgt := 26) hx hb dX1_lead_22 (by decide) ?_
      refine va_put (D := D) (ci := 1) (v := .int (nI 0)) (ty := .int) (C := RX1) (T := TX1) (N := 15) hx hb hts hin tyX1 tyX1_ok nmX1 hown hK hP hD hS 0 rfl rfl 0 (by decide) (hts (.fieldLink RX1 41 "SignRailModel" "thrown" "I") (by decide +kernel)) (fun _ h9 => h9) rfl (by decide +kernel) (rfl) (rfl) (Nat.le_of_ble_eq_true rfl) dX1_lead_26 (fun H locs hP hD hS => ?_)
      have hP : va_P D vwCl (wm cI cZ q (nI 0) sh sp ld nm nk tx mn ds ct co st at0 ha tk) H := hP
      have hD : va_D _ (wm cI cZ q (nI 0) sh sp ld nm nk tx mn ds ct co st at0 ha tk) := hD
      refine lv_aload_n hx hb dX1_lead_29 rfl (lv_at hl 0 rfl) ?_
      refine va_get (D := D) (ci := 1) (v := .int (nI 0)) (C := RX1) (T := TX1) (N := 15) hx hb hts hin hown hK hP 0 rfl rfl 0 (by decide) (hts (.fieldLink RX1 41 "SignRailModel" "thrown" "I") (by decide +kernel)) (fun _ h9 => h9) rfl dX1_lead_30 ?_
      refine n_if_le (tgt := 38) hx hb dX1_lead_33 (by decide) (by decide) (fun _ => ?_) (fun c_33 => absurd c_33 (by decide))
      refine lv_aload_n hx hb dX1_lead_38 rfl (lv_at hl 0 rfl) ?_
      refine va_get (D := D) (ci := 1) (v := .ref (q 3)) (C := RX1) (T := TX1) (N := 15) hx hb hts hin hown hK hP 0 rfl rfl 3 (by decide) (hts (.fieldLink RX1 16 "SignRailModel" "leads" "[I") (by decide +kernel)) (fun _ h9 => h9) rfl dX1_lead_39 ?_
      refine lv_iconst (v := nI 4) hx hb dX1_lead_42 (by decide) ?_
      refine lv_iload_n hx hb dX1_lead_43 rfl (lv_at hl 1 rfl) ?_
      refine lv_imul hx hb dX1_lead_44 ?_
      refine lv_as (y := nI (4 * p')) (pk_mul _ _) ?_
      refine lv_iload_n hx hb dX1_lead_45 rfl (lv_at hl 2 rfl) ?_
      refine lv_iadd hx hb dX1_lead_46 ?_
      refine lv_as (y := nI ((4 * p') + x')) (nI_add _ _) ?_
      refine n_iald hx hb hK hP 3 0 rfl rfl (k := ((4 * p') + x')) (by omega) (Nat.le_of_ble_eq_true rfl) dX1_lead_47 ?_
      refine lv_istore (lv' := [(4, .int (ld ((4 * p') + x'))), (0, .ref (q 0)), (1, .int (nI p')), (2, .int (nI x')), (3, .int to)]) hx hb dX1_lead_48 hl (by decide) rfl (fun ls hl => ?_)
      refine lv_aload_n hx hb dX1_lead_50 rfl (lv_at hl 1 rfl) ?_
      refine va_get (D := D) (ci := 1) (v := .ref (q 3)) (C := RX1) (T := TX1) (N := 15) hx hb hts hin hown hK hP 0 rfl rfl 3 (by decide) (hts (.fieldLink RX1 16 "SignRailModel" "leads" "[I") (by decide +kernel)) (fun _ h9 => h9) rfl dX1_lead_51 ?_
      refine lv_iconst (v := nI 4) hx hb dX1_lead_54 (by decide) ?_
      refine lv_iload_n hx hb dX1_lead_55 rfl (lv_at hl 2 rfl) ?_
      refine lv_imul hx hb dX1_lead_56 ?_
      refine lv_as (y := nI (4 * p')) (pk_mul _ _) ?_
      refine lv_iload_n hx hb dX1_lead_57 rfl (lv_at hl 3 rfl) ?_
      refine lv_iadd hx hb dX1_lead_58 ?_
      refine lv_as (y := nI ((4 * p') + x')) (nI_add _ _) ?_
      refine lv_iload_n hx hb dX1_lead_59 rfl (lv_at hl 4 rfl) ?_
      refine n_iast hx hb hK hP hD hS 3 0 rfl rfl (k := ((4 * p') + x')) (by omega) (Nat.le_of_ble_eq_true rfl) dX1_lead_60 (fun H locs hP hD hS => ?_)
      have hP : va_P D vwCl (wm cI cZ q (nI 0) sh sp (upd ld ((4 * p') + x') to) nm nk tx mn ds ct co st at0 ha tk) H := hP
      have hD : va_D _ (wm cI cZ q (nI 0) sh sp (upd ld ((4 * p') + x') to) nm nk tx mn ds ct co st at0 ha tk) := hD
      refine lv_iload hx hb dX1_lead_61 (lv_at hl 0 rfl) ?_
      exact k_wiret (nI 0, some (p', x', 8))  hx hb hr hlocks dX1_lead_63 (⟨(congrArg nI (cd1_0 (and_t c_6 (by rw [c_11]; rfl)))).symm, (cd1_0 (and_t c_6 (by rw [c_11]; rfl))), hp', rfl, hx', rfl, Nat.le_refl 8, c_11⟩) rfl hP hS (Nat.le_of_ble_eq_true rfl) (Nat.le_of_ble_eq_true rfl)
    · refine lv_iload_n hx hb dX1_lead_14 rfl (lv_at hl 3 rfl) ?_
      refine k_callSi (As := [.int to]) (rest := [.ref (q 0)]) ⟨hx, hb, hml, hown, hts⟩ (c_X1_isPlace l to) (va_cwS 1 hts gX1_lead_X1_isPlace rfl rfl rfl (by decide +kernel) ⟨Nat.le_of_ble_eq_true rfl, Nat.le_of_ble_eq_true rfl⟩) k_bl_tt (fun _ _ _ => trivial) rfl hl.1 rfl (Nat.le_of_ble_eq_true rfl) dX1_lead_15 ⟨Nat.zero_le _, Nat.zero_le _⟩ ?_
      refine b_if_eq (tgt := 25) hx hb dX1_lead_18 (by decide) (fun c_18 => ?_) (fun c_18 => ?_)
      · refine lv_iconst (v := nI 1) hx hb dX1_lead_25 (by decide) ?_
        refine va_put (D := D) (ci := 1) (v := .int (nI 1)) (ty := .int) (C := RX1) (T := TX1) (N := 15) hx hb hts hin tyX1 tyX1_ok nmX1 hown hK hP hD hS 0 rfl rfl 0 (by decide) (hts (.fieldLink RX1 41 "SignRailModel" "thrown" "I") (by decide +kernel)) (fun _ h9 => h9) rfl (by decide +kernel) (rfl) (rfl) (Nat.le_of_ble_eq_true rfl) dX1_lead_26 (fun H locs hP hD hS => ?_)
        have hP : va_P D vwCl (wm cI cZ q (nI 1) sh sp ld nm nk tx mn ds ct co st at0 ha tk) H := hP
        have hD : va_D _ (wm cI cZ q (nI 1) sh sp ld nm nk tx mn ds ct co st at0 ha tk) := hD
        refine lv_aload_n hx hb dX1_lead_29 rfl (lv_at hl 0 rfl) ?_
        refine va_get (D := D) (ci := 1) (v := .int (nI 1)) (C := RX1) (T := TX1) (N := 15) hx hb hts hin hown hK hP 0 rfl rfl 0 (by decide) (hts (.fieldLink RX1 41 "SignRailModel" "thrown" "I") (by decide +kernel)) (fun _ h9 => h9) rfl dX1_lead_30 ?_
        refine n_if_le (tgt := 38) hx hb dX1_lead_33 (by decide) (by decide) (fun c_33 => absurd c_33 (by decide)) (fun _ => ?_)
        refine lv_iconst (v := nI 0) hx hb dX1_lead_36 (by decide) ?_
        exact k_wiret (nI 1, none)  hx hb hr hlocks dX1_lead_37 (k_no (cd1_1 (by first | exact and_l c_6 | exact and_r (by rw [c_18, decide_eq_false c_11]; rfl))) (by decide)) rfl hP hS (Nat.le_of_ble_eq_true rfl) (Nat.le_of_ble_eq_true rfl)
      · obtain ⟨t', ht', rfl⟩ := inB_ex (by decide) (c_18)
        refine lv_iconst (v := nI 0) hx hb dX1_lead_21 (by decide) ?_
        refine lv_goto (tgt := 26) hx hb dX1_lead_22 (by decide) ?_
        refine va_put (D := D) (ci := 1) (v := .int (nI 0)) (ty := .int) (C := RX1) (T := TX1) (N := 15) hx hb hts hin tyX1 tyX1_ok nmX1 hown hK hP hD hS 0 rfl rfl 0 (by decide) (hts (.fieldLink RX1 41 "SignRailModel" "thrown" "I") (by decide +kernel)) (fun _ h9 => h9) rfl (by decide +kernel) (rfl) (rfl) (Nat.le_of_ble_eq_true rfl) dX1_lead_26 (fun H locs hP hD hS => ?_)
        have hP : va_P D vwCl (wm cI cZ q (nI 0) sh sp ld nm nk tx mn ds ct co st at0 ha tk) H := hP
        have hD : va_D _ (wm cI cZ q (nI 0) sh sp ld nm nk tx mn ds ct co st at0 ha tk) := hD
        refine lv_aload_n hx hb dX1_lead_29 rfl (lv_at hl 0 rfl) ?_
        refine va_get (D := D) (ci := 1) (v := .int (nI 0)) (C := RX1) (T := TX1) (N := 15) hx hb hts hin hown hK hP 0 rfl rfl 0 (by decide) (hts (.fieldLink RX1 41 "SignRailModel" "thrown" "I") (by decide +kernel)) (fun _ h9 => h9) rfl dX1_lead_30 ?_
        refine n_if_le (tgt := 38) hx hb dX1_lead_33 (by decide) (by decide) (fun _ => ?_) (fun c_33 => absurd c_33 (by decide))
        refine lv_aload_n hx hb dX1_lead_38 rfl (lv_at hl 0 rfl) ?_
        refine va_get (D := D) (ci := 1) (v := .ref (q 3)) (C := RX1) (T := TX1) (N := 15) hx hb hts hin hown hK hP 0 rfl rfl 3 (by decide) (hts (.fieldLink RX1 16 "SignRailModel" "leads" "[I") (by decide +kernel)) (fun _ h9 => h9) rfl dX1_lead_39 ?_
        refine lv_iconst (v := nI 4) hx hb dX1_lead_42 (by decide) ?_
        refine lv_iload_n hx hb dX1_lead_43 rfl (lv_at hl 1 rfl) ?_
        refine lv_imul hx hb dX1_lead_44 ?_
        refine lv_as (y := nI (4 * p')) (pk_mul _ _) ?_
        refine lv_iload_n hx hb dX1_lead_45 rfl (lv_at hl 2 rfl) ?_
        refine lv_iadd hx hb dX1_lead_46 ?_
        refine lv_as (y := nI ((4 * p') + x')) (nI_add _ _) ?_
        refine n_iald hx hb hK hP 3 0 rfl rfl (k := ((4 * p') + x')) (by omega) (Nat.le_of_ble_eq_true rfl) dX1_lead_47 ?_
        refine lv_istore (lv' := [(4, .int (ld ((4 * p') + x'))), (0, .ref (q 0)), (1, .int (nI p')), (2, .int (nI x')), (3, .int (nI t'))]) hx hb dX1_lead_48 hl (by decide) rfl (fun ls hl => ?_)
        refine lv_aload_n hx hb dX1_lead_50 rfl (lv_at hl 1 rfl) ?_
        refine va_get (D := D) (ci := 1) (v := .ref (q 3)) (C := RX1) (T := TX1) (N := 15) hx hb hts hin hown hK hP 0 rfl rfl 3 (by decide) (hts (.fieldLink RX1 16 "SignRailModel" "leads" "[I") (by decide +kernel)) (fun _ h9 => h9) rfl dX1_lead_51 ?_
        refine lv_iconst (v := nI 4) hx hb dX1_lead_54 (by decide) ?_
        refine lv_iload_n hx hb dX1_lead_55 rfl (lv_at hl 2 rfl) ?_
        refine lv_imul hx hb dX1_lead_56 ?_
        refine lv_as (y := nI (4 * p')) (pk_mul _ _) ?_
        refine lv_iload_n hx hb dX1_lead_57 rfl (lv_at hl 3 rfl) ?_
        refine lv_iadd hx hb dX1_lead_58 ?_
        refine lv_as (y := nI ((4 * p') + x')) (nI_add _ _) ?_
        refine lv_iload_n hx hb dX1_lead_59 rfl (lv_at hl 4 rfl) ?_
        refine n_iast hx hb hK hP hD hS 3 0 rfl rfl (k := ((4 * p') + x')) (by omega) (Nat.le_of_ble_eq_true rfl) dX1_lead_60 (fun H locs hP hD hS => ?_)
        have hP : va_P D vwCl (wm cI cZ q (nI 0) sh sp (upd ld ((4 * p') + x') (nI t')) nm nk tx mn ds ct co st at0 ha tk) H := hP
        have hD : va_D _ (wm cI cZ q (nI 0) sh sp (upd ld ((4 * p') + x') (nI t')) nm nk tx mn ds ct co st at0 ha tk) := hD
        refine lv_iload hx hb dX1_lead_61 (lv_at hl 0 rfl) ?_
        exact k_wiret (nI 0, some (p', x', t'))  hx hb hr hlocks dX1_lead_63 (⟨(congrArg nI (cd1_0 (and_t c_6 (by rw [c_18, Bool.or_true])))).symm, (cd1_0 (and_t c_6 (by rw [c_18, Bool.or_true]))), hp', rfl, hx', rfl, Nat.le_of_lt ht', (ix_lt ht').symm⟩) rfl hP hS (Nat.le_of_ble_eq_true rfl) (Nat.le_of_ble_eq_true rfl)
set_option maxHeartbeats 4000000 in
set_option maxRecDepth 100000 in
theorem c_X1_name (l : Launch) (D : va_G) (cI cZ : ClassId) (q : Nat → Nat) (th : Int32) (sh sp ld nm nk tx mn ds ct : Nat → Int32) (co : Int64) (st at0 ha : Int32) (tk : Nat → Int32) (p0 t m0 : Int32) (hDt : va_D (fun _ => True) (wm cI cZ q th sh sp ld nm nk tx mn ds ct co st at0 ha tk)) : Met l yX1_name wsX1_name ({ frames := 2, cells := 0, slots := 0, locals := 43 } : Room) (k_P [.ref (q 0), .int p0, .int t, .int m0] (k_B D (wm cI cZ q th sh sp ld nm nk tx mn ds ct co st at0 ha tk) [(cI, .int), (cZ, .boolean)])) (k_WQ D (wm cI cZ q th sh sp ld nm nk tx mn ds ct co st at0 ha tk) (fun u : Int32 × Option (Nat × Nat × Nat) => u.1 = nI (cd2 (inB p0 8) (txB t m0)) ∧ u.2.elim (cd2 (inB p0 8) (txB t m0) ≠ 0) (fun v => cd2 (inB p0 8) (txB t m0) = 0 ∧ v.1 < 8 ∧ p0 = nI v.1 ∧ 1 ≤ v.2.2 ∧ v.2.2 ≤ 5 ∧ v.2.1 < 8 ^ v.2.2 ∧ t = nI v.2.1 ∧ m0 = nI v.2.2)) (fun u => wm cI cZ q u.1 sh sp ld (u.2.elim nm (fun v => upd nm v.1 (nI v.2.1))) (u.2.elim nk (fun v => upd nk v.1 (nI v.2.2))) tx mn ds ct co st at0 ha tk) (fun u => none)) 0 0 (k_A (wm cI cZ q th sh sp ld nm nk tx mn ds ct co st at0 ha tk)) := by
  refine k_head (cc := cX1_name) (maxL := 4) (ret := none) [(0, .ref (q 0)), (1, .int p0), (2, .int t), (3, .int m0)] (by decide) rfl (Nat.le_of_ble_eq_true rfl) rfl ?_
  intro p e s m below meth c ls hx hb hr hml hown hts hlocks hname hB hl
  have hown : s.vm.findClass RX1 = some m.cls := hown
  obtain ⟨hP, hK⟩ := hB
  have hin : ∀ w ∈ wsX10, w ∈ wsX1_name := fun w h => List.mem_cons_of_mem _ (List.mem_append_right _ h)
  have hD := k_A_D hDt
  have hS : va_S (k_A (wm cI cZ q th sh sp ld nm nk tx mn ds ct co st at0 ha tk)) s.heap s.heap [] := va_S.rf
  refine lv_aload_n hx hb dX1_name_0 rfl (lv_at hl 0 rfl) ?_
  refine lv_iload_n hx hb dX1_name_1 rfl (lv_at hl 1 rfl) ?_
  refine k_callSi (As := [.int p0]) (rest := [.ref (q 0)]) ⟨hx, hb, hml, hown, hts⟩ (c_X1_isPlace l p0) (va_cwS 1 hts gX1_name_X1_isPlace rfl rfl rfl (by decide +kernel) ⟨Nat.le_of_ble_eq_true rfl, Nat.le_of_ble_eq_true rfl⟩) k_bl_tt (fun _ _ _ => trivial) rfl hl.1 rfl (Nat.le_of_ble_eq_true rfl) dX1_name_2 ⟨Nat.zero_le _, Nat.zero_le _⟩ ?_
  refine b_if_ne (tgt := 12) hx hb dX1_name_5 (by decide) (fun c_5 => ?_) (fun c_5 => ?_)
  · obtain ⟨p', hp', rfl⟩ := inB_ex (by decide) (c_5)
    refine lv_iload_n hx hb dX1_name_12 rfl (lv_at hl 2 rfl) ?_
    refine lv_iload_n hx hb dX1_name_13 rfl (lv_at hl 3 rfl) ?_
    refine k_callSi (As := [.int t, .int m0]) (rest := [.ref (q 0)]) ⟨hx, hb, hml, hown, hts⟩ (c_X1_isText l t m0) (va_cwS 2 hts gX1_name_X1_isText rfl rfl rfl (by decide +kernel) ⟨Nat.le_of_ble_eq_true rfl, Nat.le_of_ble_eq_true rfl⟩) k_bl_tt (fun _ _ _ => trivial) rfl hl.1 rfl (Nat.le_of_ble_eq_true rfl) dX1_name_14 ⟨Nat.zero_le _, Nat.zero_le _⟩ ?_
    refine b_if_eq (tgt := 24) hx hb dX1_name_17 (by decide) (fun c_17 => ?_) (fun c_17 => ?_)
    · refine lv_iconst (v := nI 2) hx hb dX1_name_24 (by decide) ?_
      refine va_put (D := D) (ci := 1) (v := .int (nI 2)) (ty := .int) (C := RX1) (T := TX1) (N := 15) hx hb hts hin tyX1 tyX1_ok nmX1 hown hK hP hD hS 0 rfl rfl 0 (by decide) (hts (.fieldLink RX1 41 "SignRailModel" "thrown" "I") (by decide +kernel)) (fun _ h9 => h9) rfl (by decide +kernel) (rfl) (rfl) (Nat.le_of_ble_eq_true rfl) dX1_name_25 (fun H locs hP hD hS => ?_)
      have hP : va_P D vwCl (wm cI cZ q (nI 2) sh sp ld nm nk tx mn ds ct co st at0 ha tk) H := hP
      have hD : va_D _ (wm cI cZ q (nI 2) sh sp ld nm nk tx mn ds ct co st at0 ha tk) := hD
      refine lv_aload_n hx hb dX1_name_28 rfl (lv_at hl 0 rfl) ?_
      refine va_get (D := D) (ci := 1) (v := .int (nI 2)) (C := RX1) (T := TX1) (N := 15) hx hb hts hin hown hK hP 0 rfl rfl 0 (by decide) (hts (.fieldLink RX1 41 "SignRailModel" "thrown" "I") (by decide +kernel)) (fun _ h9 => h9) rfl dX1_name_29 ?_
      refine n_if_ne (tgt := 49) hx hb dX1_name_32 (by decide) (by decide) (fun _ => ?_) (fun c_32 => absurd c_32 (by decide))
      exact k_wvret (nI 2, none)  hx hb hr hlocks dX1_name_49 (k_no (cd2_2 c_5 c_17) (by decide)) rfl hP hS (Nat.le_of_ble_eq_true rfl) (Nat.le_of_ble_eq_true rfl)
    · obtain ⟨t', k, hk1, hk5, htk, rfl, rfl⟩ := txB_ex c_17
      have hp8 := p8_le hk5
      have ht' : t' < 32768 := by omega
      refine lv_iconst (v := nI 0) hx hb dX1_name_20 (by decide) ?_
      refine lv_goto (tgt := 25) hx hb dX1_name_21 (by decide) ?_
      refine va_put (D := D) (ci := 1) (v := .int (nI 0)) (ty := .int) (C := RX1) (T := TX1) (N := 15) hx hb hts hin tyX1 tyX1_ok nmX1 hown hK hP hD hS 0 rfl rfl 0 (by decide) (hts (.fieldLink RX1 41 "SignRailModel" "thrown" "I") (by decide +kernel)) (fun _ h9 => h9) rfl (by decide +kernel) (rfl) (rfl) (Nat.le_of_ble_eq_true rfl) dX1_name_25 (fun H locs hP hD hS => ?_)
      have hP : va_P D vwCl (wm cI cZ q (nI 0) sh sp ld nm nk tx mn ds ct co st at0 ha tk) H := hP
      have hD : va_D _ (wm cI cZ q (nI 0) sh sp ld nm nk tx mn ds ct co st at0 ha tk) := hD
      refine lv_aload_n hx hb dX1_name_28 rfl (lv_at hl 0 rfl) ?_
      refine va_get (D := D) (ci := 1) (v := .int (nI 0)) (C := RX1) (T := TX1) (N := 15) hx hb hts hin hown hK hP 0 rfl rfl 0 (by decide) (hts (.fieldLink RX1 41 "SignRailModel" "thrown" "I") (by decide +kernel)) (fun _ h9 => h9) rfl dX1_name_29 ?_
      refine n_if_ne (tgt := 49) hx hb dX1_name_32 (by decide) (by decide) (fun c_32 => absurd c_32 (by decide)) (fun _ => ?_)
      refine lv_aload_n hx hb dX1_name_35 rfl (lv_at hl 0 rfl) ?_
      refine va_get (D := D) (ci := 1) (v := .ref (q 4)) (C := RX1) (T := TX1) (N := 15) hx hb hts hin hown hK hP 0 rfl rfl 4 (by decide) (hts (.fieldLink RX1 19 "SignRailModel" "names" "[I") (by decide +kernel)) (fun _ h9 => h9) rfl dX1_name_36 ?_
      refine lv_iload_n hx hb dX1_name_39 rfl (lv_at hl 1 rfl) ?_
      refine lv_iload_n hx hb dX1_name_40 rfl (lv_at hl 2 rfl) ?_
      refine n_iast hx hb hK hP hD hS 4 0 rfl rfl (k := p') (by omega) (Nat.le_of_ble_eq_true rfl) dX1_name_41 (fun H locs hP hD hS => ?_)
      have hP : va_P D vwCl (wm cI cZ q (nI 0) sh sp ld (upd nm p' (nI t')) nk tx mn ds ct co st at0 ha tk) H := hP
      have hD : va_D _ (wm cI cZ q (nI 0) sh sp ld (upd nm p' (nI t')) nk tx mn ds ct co st at0 ha tk) := hD
      refine lv_aload_n hx hb dX1_name_42 rfl (lv_at hl 0 rfl) ?_
      refine va_get (D := D) (ci := 1) (v := .ref (q 5)) (C := RX1) (T := TX1) (N := 15) hx hb hts hin hown hK hP 0 rfl rfl 5 (by decide) (hts (.fieldLink RX1 22 "SignRailModel" "nameMany" "[I") (by decide +kernel)) (fun _ h9 => h9) rfl dX1_name_43 ?_
      refine lv_iload_n hx hb dX1_name_46 rfl (lv_at hl 1 rfl) ?_
      refine lv_iload_n hx hb dX1_name_47 rfl (lv_at hl 3 rfl) ?_
      refine n_iast hx hb hK hP hD hS 5 0 rfl rfl (k := p') (by omega) (Nat.le_of_ble_eq_true rfl) dX1_name_48 (fun H locs hP hD hS => ?_)
      have hP : va_P D vwCl (wm cI cZ q (nI 0) sh sp ld (upd nm p' (nI t')) (upd nk p' (nI k)) tx mn ds ct co st at0 ha tk) H := hP
      have hD : va_D _ (wm cI cZ q (nI 0) sh sp ld (upd nm p' (nI t')) (upd nk p' (nI k)) tx mn ds ct co st at0 ha tk) := hD
      exact k_wvret (nI 0, some (p', t', k))  hx hb hr hlocks dX1_name_49 (⟨(congrArg nI (cd2_0 c_5 c_17)).symm, (cd2_0 c_5 c_17), hp', rfl, hk1, hk5, htk, rfl, rfl⟩) rfl hP hS (Nat.le_of_ble_eq_true rfl) (Nat.le_of_ble_eq_true rfl)
  · refine lv_iconst (v := nI 1) hx hb dX1_name_8 (by decide) ?_
    refine lv_goto (tgt := 25) hx hb dX1_name_9 (by decide) ?_
    refine va_put (D := D) (ci := 1) (v := .int (nI 1)) (ty := .int) (C := RX1) (T := TX1) (N := 15) hx hb hts hin tyX1 tyX1_ok nmX1 hown hK hP hD hS 0 rfl rfl 0 (by decide) (hts (.fieldLink RX1 41 "SignRailModel" "thrown" "I") (by decide +kernel)) (fun _ h9 => h9) rfl (by decide +kernel) (rfl) (rfl) (Nat.le_of_ble_eq_true rfl) dX1_name_25 (fun H locs hP hD hS => ?_)
    have hP : va_P D vwCl (wm cI cZ q (nI 1) sh sp ld nm nk tx mn ds ct co st at0 ha tk) H := hP
    have hD : va_D _ (wm cI cZ q (nI 1) sh sp ld nm nk tx mn ds ct co st at0 ha tk) := hD
    refine lv_aload_n hx hb dX1_name_28 rfl (lv_at hl 0 rfl) ?_
    refine va_get (D := D) (ci := 1) (v := .int (nI 1)) (C := RX1) (T := TX1) (N := 15) hx hb hts hin hown hK hP 0 rfl rfl 0 (by decide) (hts (.fieldLink RX1 41 "SignRailModel" "thrown" "I") (by decide +kernel)) (fun _ h9 => h9) rfl dX1_name_29 ?_
    refine n_if_ne (tgt := 49) hx hb dX1_name_32 (by decide) (by decide) (fun _ => ?_) (fun c_32 => absurd c_32 (by decide))
    exact k_wvret (nI 1, none)  hx hb hr hlocks dX1_name_49 (k_no (cd2_1 c_5) (by decide)) rfl hP hS (Nat.le_of_ble_eq_true rfl) (Nat.le_of_ble_eq_true rfl)
set_option maxHeartbeats 4000000 in
set_option maxRecDepth 100000 in
theorem c_X1_textWidth (l : Launch) (D : va_G) (cI cZ : ClassId) (q : Nat → Nat) (th : Int32) (sh sp ld nm nk tx mn ds ct : Nat → Int32) (co : Int64) (st at0 ha : Int32) (tk : Nat → Int32) (t m0 : Int32) (hDt : va_D (fun _ => True) (wm cI cZ q th sh sp ld nm nk tx mn ds ct co st at0 ha tk)) : Met l yX1_textWidth wsX1_textWidth ({ frames := 3, cells := 0, slots := 0, locals := 68 } : Room) (k_P [.ref (q 0), .int t, .int m0] (k_B D (wm cI cZ q th sh sp ld nm nk tx mn ds ct co st at0 ha tk) [(cI, .int), (cZ, .boolean)])) (k_WQ D (wm cI cZ q th sh sp ld nm nk tx mn ds ct co st at0 ha tk) (fun u : Int32 × Option (Nat × Nat) => u.1 = nI (cd1 (txB t m0)) ∧ u.2.elim (cd1 (txB t m0) ≠ 0) (fun v => cd1 (txB t m0) = 0 ∧ 1 ≤ v.2 ∧ v.2 ≤ 5 ∧ v.1 < 8 ^ v.2 ∧ t = nI v.1 ∧ m0 = nI v.2)) (fun u => wm cI cZ q u.1 sh sp ld nm nk tx mn ds ct co st at0 ha tk) (fun u => some (.int (u.2.elim (nI 0) (fun v => pwR (wdR sh) sp v.1 v.2 v.2))))) 0 0 (k_A (wm cI cZ q th sh sp ld nm nk tx mn ds ct co st at0 ha tk)) := by
  refine k_head (cc := cX1_textWidth) (maxL := 3) (ret := (some .int)) [(0, .ref (q 0)), (1, .int t), (2, .int m0)] (by decide) rfl (Nat.le_of_ble_eq_true rfl) rfl ?_
  intro p e s m below meth c ls hx hb hr hml hown hts hlocks hname hB hl
  have hown : s.vm.findClass RX1 = some m.cls := hown
  obtain ⟨hP, hK⟩ := hB
  have hin : ∀ w ∈ wsX10, w ∈ wsX1_textWidth := fun w h => List.mem_cons_of_mem _ (List.mem_append_right _ h)
  have hD := k_A_D hDt
  have hS : va_S (k_A (wm cI cZ q th sh sp ld nm nk tx mn ds ct co st at0 ha tk)) s.heap s.heap [] := va_S.rf
  refine lv_aload_n hx hb dX1_textWidth_0 rfl (lv_at hl 0 rfl) ?_
  refine lv_iconst (v := nI 0) hx hb dX1_textWidth_1 (by decide) ?_
  refine va_put (D := D) (ci := 1) (v := .int (nI 0)) (ty := .int) (C := RX1) (T := TX1) (N := 15) hx hb hts hin tyX1 tyX1_ok nmX1 hown hK hP hD hS 0 rfl rfl 0 (by decide) (hts (.fieldLink RX1 41 "SignRailModel" "thrown" "I") (by decide +kernel)) (fun _ h9 => h9) rfl (by decide +kernel) (rfl) (rfl) (Nat.le_of_ble_eq_true rfl) dX1_textWidth_2 (fun H locs hP hD hS => ?_)
  have hP : va_P D vwCl (wm cI cZ q (nI 0) sh sp ld nm nk tx mn ds ct co st at0 ha tk) H := hP
  have hD : va_D _ (wm cI cZ q (nI 0) sh sp ld nm nk tx mn ds ct co st at0 ha tk) := hD
  refine lv_iload_n hx hb dX1_textWidth_5 rfl (lv_at hl 1 rfl) ?_
  refine lv_iload_n hx hb dX1_textWidth_6 rfl (lv_at hl 2 rfl) ?_
  refine k_callSi (As := [.int t, .int m0]) (rest := []) ⟨hx, hb, hml, hown, hts⟩ (c_X1_isText l t m0) (va_cwS 2 hts gX1_textWidth_X1_isText rfl rfl rfl (by decide +kernel) ⟨Nat.le_of_ble_eq_true rfl, Nat.le_of_ble_eq_true rfl⟩) k_bl_tt (fun _ _ _ => trivial) rfl hl.1 rfl (Nat.le_of_ble_eq_true rfl) dX1_textWidth_7 ⟨Nat.zero_le _, Nat.zero_le _⟩ ?_
  refine b_if_eq (tgt := 22) hx hb dX1_textWidth_10 (by decide) (fun c_10 => ?_) (fun c_10 => ?_)
  · refine lv_aload_n hx hb dX1_textWidth_22 rfl (lv_at hl 0 rfl) ?_
    refine lv_iconst (v := nI 1) hx hb dX1_textWidth_23 (by decide) ?_
    refine k_callVW (wr := []) (As := [.int (nI 1)]) (rest := []) ⟨hx, hb, hml, hown, hts⟩ (c_X1_fails l D cI cZ q (nI 0) sh sp ld nm nk tx mn ds ct co st at0 ha tk (nI 1) (k_D_tt hD)) (cwV 1 hts gX1_textWidth_X1_fails rfl rfl rfl (by decide +kernel) ⟨Nat.le_of_ble_eq_true rfl, Nat.le_of_ble_eq_true rfl⟩) k_B_bl (k_B_of hP hK) (va_recv hK hP (ci := 1) (q0 := 0) rfl rfl) rfl hl.1 rfl (Nat.le_of_ble_eq_true rfl) dX1_textWidth_24 ⟨Nat.le_of_ble_eq_true rfl, Nat.le_of_ble_eq_true rfl⟩ hP hD hS [] [0, 1, 2, 3, 4, 5, 6, 7, 8, 9, 10] rfl rfl (fun _ => rfl) (fun u_24 H locs hu_24 hP hD hS hsz hkp => ?_)
    have hP : va_P D vwCl (wm cI cZ q (nI 1) sh sp ld nm nk tx mn ds ct co st at0 ha tk) H := hP
    have hD : va_D _ (wm cI cZ q (nI 1) sh sp ld nm nk tx mn ds ct co st at0 ha tk) := hD
    exact k_wiret (nI 1, none)  hx hb hr hlocks dX1_textWidth_27 (k_no (cd1_1 c_10) (by decide)) rfl hP hS (Nat.le_of_ble_eq_true rfl) (Nat.le_of_ble_eq_true rfl)
  · obtain ⟨t', k, hk1, hk5, htk, rfl, rfl⟩ := txB_ex c_10
    have hp8 := p8_le hk5
    have ht' : t' < 32768 := by omega
    refine lv_aload_n hx hb dX1_textWidth_13 rfl (lv_at hl 0 rfl) ?_
    refine lv_iload_n hx hb dX1_textWidth_14 rfl (lv_at hl 1 rfl) ?_
    refine lv_iload_n hx hb dX1_textWidth_15 rfl (lv_at hl 2 rfl) ?_
    refine k_callVi (As := [.int (nI t'), .int (nI k)]) (rest := []) ⟨hx, hb, hml, hown, hts⟩ (c_X1_widthOfText l D cI cZ q (nI 0) sh sp ld nm nk tx mn ds ct co st at0 ha tk t' k (by omega) (by omega)) (cwV 2 hts gX1_textWidth_X1_widthOfText rfl rfl rfl (by decide +kernel) ⟨Nat.le_of_ble_eq_true rfl, Nat.le_of_ble_eq_true rfl⟩) k_B_bl (k_B_of hP hK) (va_recv hK hP (ci := 1) (q0 := 0) rfl rfl) rfl hl.1 rfl (Nat.le_of_ble_eq_true rfl) dX1_textWidth_16 ⟨Nat.zero_le _, Nat.zero_le _⟩ ?_
    refine lv_goto (tgt := 27) hx hb dX1_textWidth_19 (by decide) ?_
    exact k_wiret (nI 0, some (t', k))  hx hb hr hlocks dX1_textWidth_27 (⟨(congrArg nI (cd1_0 c_10)).symm, (cd1_0 c_10), hk1, hk5, htk, rfl, rfl⟩) rfl hP hS (Nat.le_of_ble_eq_true rfl) (Nat.le_of_ble_eq_true rfl)
set_option maxHeartbeats 4000000 in
set_option maxRecDepth 100000 in
theorem c_X1_cuts (l : Launch) (D : va_G) (cI cZ : ClassId) (q : Nat → Nat) (th : Int32) (sh sp ld nm nk tx mn ds ct : Nat → Int32) (co : Int64) (st at0 ha : Int32) (tk : Nat → Int32) (w t k : Nat) (hw : w < 32) (ht : t < 32768) (hk : k ≤ 5) (htx : tx w = nI t) (hmn : mn w = nI k) (hDt : va_D (fun _ => True) (wm cI cZ q th sh sp ld nm nk tx mn ds ct co st at0 ha tk)) : Met l yX1_cuts wsX1_cuts ({ frames := 4, cells := 0, slots := 0, locals := 91 } : Room) (k_P [.ref (q 0), .int (nI w)] (k_B D (wm cI cZ q th sh sp ld nm nk tx mn ds ct co st at0 ha tk) [(cI, .int), (cZ, .boolean)])) (k_WQ D (wm cI cZ q th sh sp ld nm nk tx mn ds ct co st at0 ha tk) (fun u : Unit => True) (fun u => wm cI cZ q th sh sp ld nm nk tx mn ds (engR sh ct w t k k) (co + (plF (pwR (wdR sh) sp t k k)).toInt64) st at0 ha tk) (fun u => none)) 0 0 (k_A (wm cI cZ q th sh sp ld nm nk tx mn ds ct co st at0 ha tk)) := by
  refine k_head (cc := cX1_cuts) (maxL := 3) (ret := none) [(0, .ref (q 0)), (1, .int (nI w))] (by decide) rfl (Nat.le_of_ble_eq_true rfl) rfl ?_
  intro p e s m below meth c ls hx hb hr hml hown hts hlocks hname hB hl
  have hown : s.vm.findClass RX1 = some m.cls := hown
  obtain ⟨hP, hK⟩ := hB
  have hin : ∀ w ∈ wsX10, w ∈ wsX1_cuts := fun w h => List.mem_cons_of_mem _ (List.mem_append_right _ h)
  have hD := k_A_D hDt
  have hS : va_S (k_A (wm cI cZ q th sh sp ld nm nk tx mn ds ct co st at0 ha tk)) s.heap s.heap [] := va_S.rf
  refine lv_iconst (v := nI 0) hx hb dX1_cuts_0 (by decide) ?_
  refine lv_istore_n (lv' := [(2, .int (nI 0)), (0, .ref (q 0)), (1, .int (nI w))]) hx hb dX1_cuts_1 rfl hl (by decide) rfl (fun ls hl => ?_)
  refine W.loopH (fun i H locs ls => va_P D vwCl (wm cI cZ q th sh sp ld nm nk tx mn ds (engR sh ct w t k i) co st at0 ha tk) H ∧ va_D (k_A (wm cI cZ q th sh sp ld nm nk tx mn ds ct co st at0 ha tk)) (wm cI cZ q th sh sp ld nm nk tx mn ds (engR sh ct w t k i) co st at0 ha tk) ∧ va_S (k_A (wm cI cZ q th sh sp ld nm nk tx mn ds ct co st at0 ha tk)) s.heap H locs ∧ lv_has ls 3 [(0, .ref (q 0)), (1, .int (nI w)), (2, .int (nI i))]) (k) (0) (by omega) ⟨hP, hD, hS, lv_sub hl [1, 2, 0] rfl⟩ ?_
  intro i H locs ls hi_2 hI_2 ih_2
  obtain ⟨hP, hD, hS, hl⟩ := hI_2
  refine lv_iload_n hx hb dX1_cuts_2 rfl (lv_at hl 2 rfl) ?_
  refine lv_aload_n hx hb dX1_cuts_3 rfl (lv_at hl 0 rfl) ?_
  refine va_get (D := D) (ci := 1) (v := .ref (q 7)) (C := RX1) (T := TX1) (N := 15) hx hb hts hin hown hK hP 0 rfl rfl 7 (by decide) (hts (.fieldLink RX1 28 "SignRailModel" "many" "[I") (by decide +kernel)) (fun _ h9 => h9) rfl dX1_cuts_4 ?_
  refine lv_iload_n hx hb dX1_cuts_7 rfl (lv_at hl 1 rfl) ?_
  refine n_iald hx hb hK hP 7 0 rfl rfl (k := w) (by omega) (Nat.le_of_ble_eq_true rfl) dX1_cuts_8 ?_
  refine lv_as (y := nI k) (hmn) ?_
  refine n_icmp_ge (tgt := 49) hx hb dX1_cuts_9 (by decide) (by omega) (by omega) (fun c_9 => ?_) (fun c_9 => ?_)
  · have hik : i = k := by omega
    rw [hik] at hP hD
    refine lv_aload_n hx hb dX1_cuts_49 rfl (lv_at hl 0 rfl) ?_
    refine lv_dup hx hb dX1_cuts_50 rfl ?_
    refine va_get (D := D) (ci := 1) (v := .long co) (C := RX1) (T := TX1) (N := 15) hx hb hts hin hown hK hP 0 rfl rfl 10 (by decide) (hts (.fieldLink RX1 84 "SignRailModel" "cost" "J") (by decide +kernel)) (fun _ h9 => h9) rfl dX1_cuts_51 ?_
    refine lv_aload_n hx hb dX1_cuts_54 rfl (lv_at hl 0 rfl) ?_
    refine lv_aload_n hx hb dX1_cuts_55 rfl (lv_at hl 0 rfl) ?_
    refine va_get (D := D) (ci := 1) (v := .ref (q 6)) (C := RX1) (T := TX1) (N := 15) hx hb hts hin hown hK hP 0 rfl rfl 6 (by decide) (hts (.fieldLink RX1 25 "SignRailModel" "texts" "[I") (by decide +kernel)) (fun _ h9 => h9) rfl dX1_cuts_56 ?_
    refine lv_iload_n hx hb dX1_cuts_59 rfl (lv_at hl 1 rfl) ?_
    refine n_iald hx hb hK hP 6 0 rfl rfl (k := w) (by omega) (Nat.le_of_ble_eq_true rfl) dX1_cuts_60 ?_
    refine lv_as (y := nI t) (htx) ?_
    refine lv_aload_n hx hb dX1_cuts_61 rfl (lv_at hl 0 rfl) ?_
    refine va_get (D := D) (ci := 1) (v := .ref (q 7)) (C := RX1) (T := TX1) (N := 15) hx hb hts hin hown hK hP 0 rfl rfl 7 (by decide) (hts (.fieldLink RX1 28 "SignRailModel" "many" "[I") (by decide +kernel)) (fun _ h9 => h9) rfl dX1_cuts_62 ?_
    refine lv_iload_n hx hb dX1_cuts_65 rfl (lv_at hl 1 rfl) ?_
    refine n_iald hx hb hK hP 7 0 rfl rfl (k := w) (by omega) (Nat.le_of_ble_eq_true rfl) dX1_cuts_66 ?_
    refine lv_as (y := nI k) (hmn) ?_
    refine k_callVi (As := [.int (nI t), .int (nI k)]) (rest := [.long co, .ref (q 0)]) ⟨hx, hb, hml, hown, hts⟩ (c_X1_plate l D cI cZ q th sh sp ld nm nk tx mn ds (engR sh ct w t k k) co st at0 ha tk t k ht hk) (cwV 2 hts gX1_cuts_X1_plate rfl rfl rfl (by decide +kernel) ⟨Nat.le_of_ble_eq_true rfl, Nat.le_of_ble_eq_true rfl⟩) k_B_bl (k_B_of hP hK) (va_recv hK hP (ci := 1) (q0 := 0) rfl rfl) rfl hl.1 rfl (Nat.le_of_ble_eq_true rfl) dX1_cuts_67 ⟨Nat.zero_le _, Nat.zero_le _⟩ ?_
    refine lv_i2l (v := (plF (pwR (wdR sh) sp t k k)).toInt64) hx hb dX1_cuts_70 rfl ?_
    refine lv_ladd hx hb dX1_cuts_71 ?_
    refine va_put (D := D) (ci := 1) (v := .long (co + ((plF (pwR (wdR sh) sp t k k)).toInt64))) (ty := .long) (C := RX1) (T := TX1) (N := 15) hx hb hts hin tyX1 tyX1_ok nmX1 hown hK hP hD hS 0 rfl rfl 10 (by decide) (hts (.fieldLink RX1 84 "SignRailModel" "cost" "J") (by decide +kernel)) (fun _ h9 => h9) rfl (by decide +kernel) (rfl) (rfl) (Nat.le_of_ble_eq_true rfl) dX1_cuts_72 (fun H locs hP hD hS => ?_)
    have hP : va_P D vwCl (wm cI cZ q th sh sp ld nm nk tx mn ds (engR sh ct w t k k) (co + ((plF (pwR (wdR sh) sp t k k)).toInt64)) st at0 ha tk) H := hP
    have hD : va_D _ (wm cI cZ q th sh sp ld nm nk tx mn ds (engR sh ct w t k k) (co + ((plF (pwR (wdR sh) sp t k k)).toInt64)) st at0 ha tk) := hD
    exact k_wvret (())  hx hb hr hlocks dX1_cuts_75 (trivial) rfl hP hS (Nat.le_of_ble_eq_true rfl) (Nat.le_of_ble_eq_true rfl)
  · refine lv_aload_n hx hb dX1_cuts_12 rfl (lv_at hl 0 rfl) ?_
    refine va_get (D := D) (ci := 1) (v := .ref (q 9)) (C := RX1) (T := TX1) (N := 15) hx hb hts hin hown hK hP 0 rfl rfl 9 (by decide) (hts (.fieldLink RX1 34 "SignRailModel" "cuts" "[I") (by decide +kernel)) (fun _ h9 => h9) rfl dX1_cuts_13 ?_
    refine lv_iconst (v := nI 5) hx hb dX1_cuts_16 (by decide) ?_
    refine lv_iload_n hx hb dX1_cuts_17 rfl (lv_at hl 1 rfl) ?_
    refine lv_imul hx hb dX1_cuts_18 ?_
    refine lv_as (y := nI (5 * w)) (pk_mul _ _) ?_
    refine lv_iload_n hx hb dX1_cuts_19 rfl (lv_at hl 2 rfl) ?_
    refine lv_iadd hx hb dX1_cuts_20 ?_
    refine lv_as (y := nI ((5 * w) + i)) (nI_add _ _) ?_
    refine lv_aload_n hx hb dX1_cuts_21 rfl (lv_at hl 0 rfl) ?_
    refine va_get (D := D) (ci := 1) (v := .ref (q 1)) (C := RX1) (T := TX1) (N := 15) hx hb hts hin hown hK hP 0 rfl rfl 1 (by decide) (hts (.fieldLink RX1 7 "SignRailModel" "shapes" "[I") (by decide +kernel)) (fun _ h9 => h9) rfl dX1_cuts_22 ?_
    refine lv_aload_n hx hb dX1_cuts_25 rfl (lv_at hl 0 rfl) ?_
    refine va_get (D := D) (ci := 1) (v := .ref (q 6)) (C := RX1) (T := TX1) (N := 15) hx hb hts hin hown hK hP 0 rfl rfl 6 (by decide) (hts (.fieldLink RX1 25 "SignRailModel" "texts" "[I") (by decide +kernel)) (fun _ h9 => h9) rfl dX1_cuts_26 ?_
    refine lv_iload_n hx hb dX1_cuts_29 rfl (lv_at hl 1 rfl) ?_
    refine n_iald hx hb hK hP 6 0 rfl rfl (k := w) (by omega) (Nat.le_of_ble_eq_true rfl) dX1_cuts_30 ?_
    refine lv_as (y := nI t) (htx) ?_
    refine lv_aload_n hx hb dX1_cuts_31 rfl (lv_at hl 0 rfl) ?_
    refine va_get (D := D) (ci := 1) (v := .ref (q 7)) (C := RX1) (T := TX1) (N := 15) hx hb hts hin hown hK hP 0 rfl rfl 7 (by decide) (hts (.fieldLink RX1 28 "SignRailModel" "many" "[I") (by decide +kernel)) (fun _ h9 => h9) rfl dX1_cuts_32 ?_
    refine lv_iload_n hx hb dX1_cuts_35 rfl (lv_at hl 1 rfl) ?_
    refine n_iald hx hb hK hP 7 0 rfl rfl (k := w) (by omega) (Nat.le_of_ble_eq_true rfl) dX1_cuts_36 ?_
    refine lv_as (y := nI k) (hmn) ?_
    refine lv_iload_n hx hb dX1_cuts_37 rfl (lv_at hl 2 rfl) ?_
    refine k_callSi (As := [.int (nI t), .int (nI k), .int (nI i)]) (rest := [.ref (q 1), .int (nI ((5 * w) + i)), .ref (q 9)]) ⟨hx, hb, hml, hown, hts⟩ (c_X1_glyph l t k i (by omega) (by omega) (by omega)) (va_cwS 3 hts gX1_cuts_X1_glyph rfl rfl rfl (by decide +kernel) ⟨Nat.le_of_ble_eq_true rfl, Nat.le_of_ble_eq_true rfl⟩) k_bl_tt (fun _ _ _ => trivial) rfl hl.1 rfl (Nat.le_of_ble_eq_true rfl) dX1_cuts_38 ⟨Nat.zero_le _, Nat.zero_le _⟩ ?_
    refine n_iald hx hb hK hP 1 0 rfl rfl (k := (dg t (k - 1 - i))) (dg_lt _ _) (Nat.le_of_ble_eq_true rfl) dX1_cuts_41 ?_
    refine n_iast hx hb hK hP hD hS 9 0 rfl rfl (k := ((5 * w) + i)) (by omega) (Nat.le_of_ble_eq_true rfl) dX1_cuts_42 (fun H locs hP hD hS => ?_)
    have hP : va_P D vwCl (wm cI cZ q th sh sp ld nm nk tx mn ds (upd (engR sh ct w t k i) ((5 * w) + i) (sh (dg t (k - 1 - i)))) co st at0 ha tk) H := hP
    have hD : va_D _ (wm cI cZ q th sh sp ld nm nk tx mn ds (upd (engR sh ct w t k i) ((5 * w) + i) (sh (dg t (k - 1 - i)))) co st at0 ha tk) := hD
    refine lv_iinc (v := nI (i + 1)) (lv' := [(2, .int (nI (i + 1))), (0, .ref (q 0)), (1, .int (nI w))]) hx hb dX1_cuts_43 hl (k := 2) rfl (nI_inc _) (by decide) rfl (fun ls hl => ?_)
    refine lv_goto (tgt := 2) hx hb dX1_cuts_46 (by decide) ?_
    exact ih_2 _ _ _ (by omega) ⟨hP, hD, hS, lv_sub hl [1, 2, 0] rfl⟩
set_option maxHeartbeats 4000000 in
set_option maxRecDepth 100000 in
theorem c_X1_cut (l : Launch) (D : va_G) (cI cZ : ClassId) (q : Nat → Nat) (th : Int32) (sh sp ld nm nk tx mn ds ct : Nat → Int32) (co : Int64) (st at0 ha : Int32) (tk : Nat → Int32) (p0 x0 t m0 d0 : Int32) (hDt : va_D (fun _ => True) (wm cI cZ q th sh sp ld nm nk tx mn ds ct co st at0 ha tk)) : Met l yX1_cut wsX1_cut ({ frames := 5, cells := 0, slots := 0, locals := 113 } : Room) (k_P [.ref (q 0), .int p0, .int x0, .int t, .int m0, .int d0] (k_B D (wm cI cZ q th sh sp ld nm nk tx mn ds ct co st at0 ha tk) [(cI, .int), (cZ, .boolean)])) (k_WQ D (wm cI cZ q th sh sp ld nm nk tx mn ds ct co st at0 ha tk) (fun u : Int32 × Option (Nat × Nat × Nat × Nat) => u.1 = nI (cd3 (inB p0 8 && inB x0 4) (txB t m0 && inB d0 10) (!decide (plF (pwR (wdR sh) sp t.toNatClampNeg m0.toNatClampNeg m0.toNatClampNeg) = -1))) ∧ u.2.elim (cd3 (inB p0 8 && inB x0 4) (txB t m0 && inB d0 10) (!decide (plF (pwR (wdR sh) sp t.toNatClampNeg m0.toNatClampNeg m0.toNatClampNeg) = -1)) ≠ 0) (fun v => cd3 (inB p0 8 && inB x0 4) (txB t m0 && inB d0 10) (!decide (plF (pwR (wdR sh) sp t.toNatClampNeg m0.toNatClampNeg m0.toNatClampNeg) = -1)) = 0 ∧ v.1 < 8 ∧ p0 = nI v.1 ∧ v.2.1 < 4 ∧ x0 = nI v.2.1 ∧ 1 ≤ v.2.2.2 ∧ v.2.2.2 ≤ 5 ∧ v.2.2.1 < 8 ^ v.2.2.2 ∧ t = nI v.2.2.1 ∧ m0 = nI v.2.2.2)) (fun u => wm cI cZ q u.1 sh sp ld nm nk (u.2.elim tx (fun v => upd tx (4 * v.1 + v.2.1) (nI v.2.2.1))) (u.2.elim mn (fun v => upd mn (4 * v.1 + v.2.1) (nI v.2.2.2))) (u.2.elim ds (fun v => upd ds (4 * v.1 + v.2.1) d0)) (u.2.elim ct (fun v => engR sh ct (4 * v.1 + v.2.1) v.2.2.1 v.2.2.2 v.2.2.2)) (u.2.elim co (fun v => co + (plF (pwR (wdR sh) sp v.2.2.1 v.2.2.2 v.2.2.2)).toInt64)) st at0 ha tk) (fun u => some (.int (u.2.elim (nI 0) (fun v => plF (pwR (wdR sh) sp v.2.2.1 v.2.2.2 v.2.2.2)))))) 0 0 (k_A (wm cI cZ q th sh sp ld nm nk tx mn ds ct co st at0 ha tk)) := by
  refine k_head (cc := cX1_cut) (maxL := 8) (ret := (some .int)) [(0, .ref (q 0)), (1, .int p0), (2, .int x0), (3, .int t), (4, .int m0), (5, .int d0)] (by decide) rfl (Nat.le_of_ble_eq_true rfl) rfl ?_
  intro p e s m below meth c ls hx hb hr hml hown hts hlocks hname hB hl
  have hown : s.vm.findClass RX1 = some m.cls := hown
  obtain ⟨hP, hK⟩ := hB
  have hin : ∀ w ∈ wsX10, w ∈ wsX1_cut := fun w h => List.mem_cons_of_mem _ (List.mem_append_right _ h)
  have hD := k_A_D hDt
  have hS : va_S (k_A (wm cI cZ q th sh sp ld nm nk tx mn ds ct co st at0 ha tk)) s.heap s.heap [] := va_S.rf
  refine lv_iload_n hx hb dX1_cut_0 rfl (lv_at hl 1 rfl) ?_
  refine lv_iload_n hx hb dX1_cut_1 rfl (lv_at hl 2 rfl) ?_
  refine k_callSi (As := [.int p0, .int x0]) (rest := []) ⟨hx, hb, hml, hown, hts⟩ (c_X1_isExit l p0 x0) (va_cwS 2 hts gX1_cut_X1_isExit rfl rfl rfl (by decide +kernel) ⟨Nat.le_of_ble_eq_true rfl, Nat.le_of_ble_eq_true rfl⟩) k_bl_tt (fun _ _ _ => trivial) rfl hl.1 rfl (Nat.le_of_ble_eq_true rfl) dX1_cut_2 ⟨Nat.zero_le _, Nat.zero_le _⟩ ?_
  refine b_if_ne (tgt := 14) hx hb dX1_cut_5 (by decide) (fun c_5 => ?_) (fun c_5 => ?_)
  · obtain ⟨he1, he2⟩ := Bool.and_eq_true_iff.mp c_5
    obtain ⟨p', hp', rfl⟩ := inB_ex (by decide) (he1)
    obtain ⟨x', hx', rfl⟩ := inB_ex (by decide) (he2)
    refine lv_iload_n hx hb dX1_cut_14 rfl (lv_at hl 3 rfl) ?_
    refine lv_iload hx hb dX1_cut_15 (lv_at hl 4 rfl) ?_
    refine k_callSi (As := [.int t, .int m0]) (rest := []) ⟨hx, hb, hml, hown, hts⟩ (c_X1_isText l t m0) (va_cwS 2 hts gX1_cut_X1_isText rfl rfl rfl (by decide +kernel) ⟨Nat.le_of_ble_eq_true rfl, Nat.le_of_ble_eq_true rfl⟩) k_bl_tt (fun _ _ _ => trivial) rfl hl.1 rfl (Nat.le_of_ble_eq_true rfl) dX1_cut_17 ⟨Nat.zero_le _, Nat.zero_le _⟩ ?_
    refine b_if_eq (tgt := 34) hx hb dX1_cut_20 (by decide) (fun c_20 => ?_) (fun c_20 => ?_)
    · refine lv_aload_n hx hb dX1_cut_34 rfl (lv_at hl 0 rfl) ?_
      refine lv_iconst (v := nI 2) hx hb dX1_cut_35 (by decide) ?_
      refine k_callVW (wr := []) (As := [.int (nI 2)]) (rest := []) ⟨hx, hb, hml, hown, hts⟩ (c_X1_fails l D cI cZ q th sh sp ld nm nk tx mn ds ct co st at0 ha tk (nI 2) (k_D_tt hD)) (cwV 1 hts gX1_cut_X1_fails rfl rfl rfl (by decide +kernel) ⟨Nat.le_of_ble_eq_true rfl, Nat.le_of_ble_eq_true rfl⟩) k_B_bl (k_B_of hP hK) (va_recv hK hP (ci := 1) (q0 := 0) rfl rfl) rfl hl.1 rfl (Nat.le_of_ble_eq_true rfl) dX1_cut_36 ⟨Nat.le_of_ble_eq_true rfl, Nat.le_of_ble_eq_true rfl⟩ hP hD hS [] [0, 1, 2, 3, 4, 5, 6, 7, 8, 9, 10] rfl rfl (fun _ => rfl) (fun u_36 H locs hu_36 hP hD hS hsz hkp => ?_)
      have hP : va_P D vwCl (wm cI cZ q (nI 2) sh sp ld nm nk tx mn ds ct co st at0 ha tk) H := hP
      have hD : va_D _ (wm cI cZ q (nI 2) sh sp ld nm nk tx mn ds ct co st at0 ha tk) := hD
      exact k_wiret (nI 2, none)  hx hb hr hlocks dX1_cut_39 (k_no (cd3_2 c_5 (by first | exact and_l c_20 | exact and_r (by rw [← rg_in d0 (n := 9) (by decide)]; exact c_31))) (by decide)) rfl hP hS (Nat.le_of_ble_eq_true rfl) (Nat.le_of_ble_eq_true rfl)
    · obtain ⟨t', k, hk1, hk5, htk, rfl, rfl⟩ := txB_ex c_20
      have hp8 := p8_le hk5
      have ht' : t' < 32768 := by omega
      refine lv_iload hx hb dX1_cut_23 (lv_at hl 5 rfl) ?_
      refine lv_iconst (v := nI 0) hx hb dX1_cut_25 (by decide) ?_
      refine lv_bipush (v := nI 9) hx hb dX1_cut_26 (by decide) ?_
      refine k_callSi (As := [.int d0, .int (nI 0), .int (nI 9)]) (rest := []) ⟨hx, hb, hml, hown, hts⟩ (c_X1_in l d0 (nI 0) (nI 9)) (va_cwS 3 hts gX1_cut_X1_in rfl rfl rfl (by decide +kernel) ⟨Nat.le_of_ble_eq_true rfl, Nat.le_of_ble_eq_true rfl⟩) k_bl_tt (fun _ _ _ => trivial) rfl hl.1 rfl (Nat.le_of_ble_eq_true rfl) dX1_cut_28 ⟨Nat.zero_le _, Nat.zero_le _⟩ ?_
      refine b_if_ne (tgt := 40) hx hb dX1_cut_31 (by decide) (fun c_31 => ?_) (fun c_31 => ?_)
      · have hcl : (nI t').toNatClampNeg = t' := nI_clamp (by omega)
        have hck : (nI k).toNatClampNeg = k := nI_clamp (by omega)
        have hd9 : inB d0 10 = true := by rw [← rg_in d0 (n := 9) (by decide)]; exact c_31
        refine lv_aload_n hx hb dX1_cut_40 rfl (lv_at hl 0 rfl) ?_
        refine lv_iload_n hx hb dX1_cut_41 rfl (lv_at hl 3 rfl) ?_
        refine lv_iload hx hb dX1_cut_42 (lv_at hl 4 rfl) ?_
        refine k_callVi (As := [.int (nI t'), .int (nI k)]) (rest := []) ⟨hx, hb, hml, hown, hts⟩ (c_X1_plate l D cI cZ q th sh sp ld nm nk tx mn ds ct co st at0 ha tk t' k ht' hk5) (cwV 2 hts gX1_cut_X1_plate rfl rfl rfl (by decide +kernel) ⟨Nat.le_of_ble_eq_true rfl, Nat.le_of_ble_eq_true rfl⟩) k_B_bl (k_B_of hP hK) (va_recv hK hP (ci := 1) (q0 := 0) rfl rfl) rfl hl.1 rfl (Nat.le_of_ble_eq_true rfl) dX1_cut_44 ⟨Nat.zero_le _, Nat.zero_le _⟩ ?_
        refine lv_istore (lv' := [(6, .int (plF (pwR (wdR sh) sp t' k k))), (0, .ref (q 0)), (1, .int (nI p')), (2, .int (nI x')), (3, .int (nI t')), (4, .int (nI k)), (5, .int d0)]) hx hb dX1_cut_47 hl (by decide) rfl (fun ls hl => ?_)
        refine lv_aload_n hx hb dX1_cut_49 rfl (lv_at hl 1 rfl) ?_
        refine lv_iload hx hb dX1_cut_50 (lv_at hl 0 rfl) ?_
        refine lv_iconst (v := (-1)) hx hb dX1_cut_52 (by decide) ?_
        refine lv_icmp_ne (tgt := 60) hx hb dX1_cut_53 (by decide) (fun c_53 => ?_) (fun c_53 => ?_)
        · refine lv_iconst (v := nI 0) hx hb dX1_cut_60 (by decide) ?_
          refine va_put (D := D) (ci := 1) (v := .int (nI 0)) (ty := .int) (C := RX1) (T := TX1) (N := 15) hx hb hts hin tyX1 tyX1_ok nmX1 hown hK hP hD hS 0 rfl rfl 0 (by decide) (hts (.fieldLink RX1 41 "SignRailModel" "thrown" "I") (by decide +kernel)) (fun _ h9 => h9) rfl (by decide +kernel) (rfl) (rfl) (Nat.le_of_ble_eq_true rfl) dX1_cut_61 (fun H locs hP hD hS => ?_)
          have hP : va_P D vwCl (wm cI cZ q (nI 0) sh sp ld nm nk tx mn ds ct co st at0 ha tk) H := hP
          have hD : va_D _ (wm cI cZ q (nI 0) sh sp ld nm nk tx mn ds ct co st at0 ha tk) := hD
          refine lv_aload_n hx hb dX1_cut_64 rfl (lv_at hl 1 rfl) ?_
          refine va_get (D := D) (ci := 1) (v := .int (nI 0)) (C := RX1) (T := TX1) (N := 15) hx hb hts hin hown hK hP 0 rfl rfl 0 (by decide) (hts (.fieldLink RX1 41 "SignRailModel" "thrown" "I") (by decide +kernel)) (fun _ h9 => h9) rfl dX1_cut_65 ?_
          refine n_if_le (tgt := 73) hx hb dX1_cut_68 (by decide) (by decide) (fun _ => ?_) (fun c_68 => absurd c_68 (by decide))
          refine lv_iconst (v := nI 4) hx hb dX1_cut_73 (by decide) ?_
          refine lv_iload_n hx hb dX1_cut_74 rfl (lv_at hl 2 rfl) ?_
          refine lv_imul hx hb dX1_cut_75 ?_
          refine lv_as (y := nI (4 * p')) (pk_mul _ _) ?_
          refine lv_iload_n hx hb dX1_cut_76 rfl (lv_at hl 3 rfl) ?_
          refine lv_iadd hx hb dX1_cut_77 ?_
          refine lv_as (y := nI ((4 * p') + x')) (nI_add _ _) ?_
          refine lv_istore (lv' := [(7, .int (nI ((4 * p') + x'))), (6, .int (plF (pwR (wdR sh) sp t' k k))), (0, .ref (q 0)), (1, .int (nI p')), (2, .int (nI x')), (3, .int (nI t')), (4, .int (nI k)), (5, .int d0)]) hx hb dX1_cut_78 hl (by decide) rfl (fun ls hl => ?_)
          refine lv_aload_n hx hb dX1_cut_80 rfl (lv_at hl 2 rfl) ?_
          refine va_get (D := D) (ci := 1) (v := .ref (q 6)) (C := RX1) (T := TX1) (N := 15) hx hb hts hin hown hK hP 0 rfl rfl 6 (by decide) (hts (.fieldLink RX1 25 "SignRailModel" "texts" "[I") (by decide +kernel)) (fun _ h9 => h9) rfl dX1_cut_81 ?_
          refine lv_iload hx hb dX1_cut_84 (lv_at hl 0 rfl) ?_
          refine lv_iload_n hx hb dX1_cut_86 rfl (lv_at hl 5 rfl) ?_
          refine n_iast hx hb hK hP hD hS 6 0 rfl rfl (k := ((4 * p') + x')) (by omega) (Nat.le_of_ble_eq_true rfl) dX1_cut_87 (fun H locs hP hD hS => ?_)
          have hP : va_P D vwCl (wm cI cZ q (nI 0) sh sp ld nm nk (upd tx ((4 * p') + x') (nI t')) mn ds ct co st at0 ha tk) H := hP
          have hD : va_D _ (wm cI cZ q (nI 0) sh sp ld nm nk (upd tx ((4 * p') + x') (nI t')) mn ds ct co st at0 ha tk) := hD
          refine lv_aload_n hx hb dX1_cut_88 rfl (lv_at hl 2 rfl) ?_
          refine va_get (D := D) (ci := 1) (v := .ref (q 7)) (C := RX1) (T := TX1) (N := 15) hx hb hts hin hown hK hP 0 rfl rfl 7 (by decide) (hts (.fieldLink RX1 28 "SignRailModel" "many" "[I") (by decide +kernel)) (fun _ h9 => h9) rfl dX1_cut_89 ?_
          refine lv_iload hx hb dX1_cut_92 (lv_at hl 0 rfl) ?_
          refine lv_iload hx hb dX1_cut_94 (lv_at hl 6 rfl) ?_
          refine n_iast hx hb hK hP hD hS 7 0 rfl rfl (k := ((4 * p') + x')) (by omega) (Nat.le_of_ble_eq_true rfl) dX1_cut_96 (fun H locs hP hD hS => ?_)
          have hP : va_P D vwCl (wm cI cZ q (nI 0) sh sp ld nm nk (upd tx ((4 * p') + x') (nI t')) (upd mn ((4 * p') + x') (nI k)) ds ct co st at0 ha tk) H := hP
          have hD : va_D _ (wm cI cZ q (nI 0) sh sp ld nm nk (upd tx ((4 * p') + x') (nI t')) (upd mn ((4 * p') + x') (nI k)) ds ct co st at0 ha tk) := hD
          refine lv_aload_n hx hb dX1_cut_97 rfl (lv_at hl 2 rfl) ?_
          refine va_get (D := D) (ci := 1) (v := .ref (q 8)) (C := RX1) (T := TX1) (N := 15) hx hb hts hin hown hK hP 0 rfl rfl 8 (by decide) (hts (.fieldLink RX1 31 "SignRailModel" "distances" "[I") (by decide +kernel)) (fun _ h9 => h9) rfl dX1_cut_98 ?_
          refine lv_iload hx hb dX1_cut_101 (lv_at hl 0 rfl) ?_
          refine lv_iload hx hb dX1_cut_103 (lv_at hl 7 rfl) ?_
          refine n_iast hx hb hK hP hD hS 8 0 rfl rfl (k := ((4 * p') + x')) (by omega) (Nat.le_of_ble_eq_true rfl) dX1_cut_105 (fun H locs hP hD hS => ?_)
          have hP : va_P D vwCl (wm cI cZ q (nI 0) sh sp ld nm nk (upd tx ((4 * p') + x') (nI t')) (upd mn ((4 * p') + x') (nI k)) (upd ds ((4 * p') + x') d0) ct co st at0 ha tk) H := hP
          have hD : va_D _ (wm cI cZ q (nI 0) sh sp ld nm nk (upd tx ((4 * p') + x') (nI t')) (upd mn ((4 * p') + x') (nI k)) (upd ds ((4 * p') + x') d0) ct co st at0 ha tk) := hD
          refine lv_aload_n hx hb dX1_cut_106 rfl (lv_at hl 2 rfl) ?_
          refine lv_iload hx hb dX1_cut_107 (lv_at hl 0 rfl) ?_
          refine k_callVW (wr := []) (As := [.int (nI ((4 * p') + x'))]) (rest := []) ⟨hx, hb, hml, hown, hts⟩ (c_X1_cuts l D cI cZ q (nI 0) sh sp ld nm nk (upd tx ((4 * p') + x') (nI t')) (upd mn ((4 * p') + x') (nI k)) (upd ds ((4 * p') + x') d0) ct co st at0 ha tk (4 * p' + x') t' k (by omega) ht' hk5 pk_us pk_us (k_D_tt hD)) (cwV 1 hts gX1_cut_X1_cuts rfl rfl rfl (by decide +kernel) ⟨Nat.le_of_ble_eq_true rfl, Nat.le_of_ble_eq_true rfl⟩) k_B_bl (k_B_of hP hK) (va_recv hK hP (ci := 1) (q0 := 0) rfl rfl) rfl hl.1 rfl (Nat.le_of_ble_eq_true rfl) dX1_cut_109 ⟨Nat.le_of_ble_eq_true rfl, Nat.le_of_ble_eq_true rfl⟩ hP hD hS [] [0, 1, 2, 3, 4, 5, 6, 7, 8, 9, 10] rfl rfl (fun _ => rfl) (fun u_109 H locs hu_109 hP hD hS hsz hkp => ?_)
          have hP : va_P D vwCl (wm cI cZ q (nI 0) sh sp ld nm nk (upd tx ((4 * p') + x') (nI t')) (upd mn ((4 * p') + x') (nI k)) (upd ds ((4 * p') + x') d0) (engR sh ct (4 * p' + x') t' k k) (co + (plF (pwR (wdR sh) sp t' k k)).toInt64) st at0 ha tk) H := hP
          have hD : va_D _ (wm cI cZ q (nI 0) sh sp ld nm nk (upd tx ((4 * p') + x') (nI t')) (upd mn ((4 * p') + x') (nI k)) (upd ds ((4 * p') + x') d0) (engR sh ct (4 * p' + x') t' k k) (co + (plF (pwR (wdR sh) sp t' k k)).toInt64) st at0 ha tk) := hD
          refine lv_iload hx hb dX1_cut_112 (lv_at hl 1 rfl) ?_
          exact k_wiret (nI 0, some (p', x', t', k))  hx hb hr hlocks dX1_cut_114 (⟨(congrArg nI (cd3_0 c_5 (and_t c_20 hd9) (by rw [hcl, hck, decide_eq_false c_53]; rfl))).symm, (cd3_0 c_5 (and_t c_20 hd9) (by rw [hcl, hck, decide_eq_false c_53]; rfl)), hp', rfl, hx', rfl, hk1, hk5, htk, rfl, rfl⟩) rfl hP hS (Nat.le_of_ble_eq_true rfl) (Nat.le_of_ble_eq_true rfl)
        · refine lv_iconst (v := nI 3) hx hb dX1_cut_56 (by decide) ?_
          refine lv_goto (tgt := 61) hx hb dX1_cut_57 (by decide) ?_
          refine va_put (D := D) (ci := 1) (v := .int (nI 3)) (ty := .int) (C := RX1) (T := TX1) (N := 15) hx hb hts hin tyX1 tyX1_ok nmX1 hown hK hP hD hS 0 rfl rfl 0 (by decide) (hts (.fieldLink RX1 41 "SignRailModel" "thrown" "I") (by decide +kernel)) (fun _ h9 => h9) rfl (by decide +kernel) (rfl) (rfl) (Nat.le_of_ble_eq_true rfl) dX1_cut_61 (fun H locs hP hD hS => ?_)
          have hP : va_P D vwCl (wm cI cZ q (nI 3) sh sp ld nm nk tx mn ds ct co st at0 ha tk) H := hP
          have hD : va_D _ (wm cI cZ q (nI 3) sh sp ld nm nk tx mn ds ct co st at0 ha tk) := hD
          refine lv_aload_n hx hb dX1_cut_64 rfl (lv_at hl 1 rfl) ?_
          refine va_get (D := D) (ci := 1) (v := .int (nI 3)) (C := RX1) (T := TX1) (N := 15) hx hb hts hin hown hK hP 0 rfl rfl 0 (by decide) (hts (.fieldLink RX1 41 "SignRailModel" "thrown" "I") (by decide +kernel)) (fun _ h9 => h9) rfl dX1_cut_65 ?_
          refine n_if_le (tgt := 73) hx hb dX1_cut_68 (by decide) (by decide) (fun c_68 => absurd c_68 (by decide)) (fun _ => ?_)
          refine lv_iconst (v := nI 0) hx hb dX1_cut_71 (by decide) ?_
          exact k_wiret (nI 3, none)  hx hb hr hlocks dX1_cut_72 (k_no (cd3_3 c_5 (and_t c_20 hd9) (by rw [hcl, hck, decide_eq_true c_53]; rfl)) (by decide)) rfl hP hS (Nat.le_of_ble_eq_true rfl) (Nat.le_of_ble_eq_true rfl)
      · refine lv_aload_n hx hb dX1_cut_34 rfl (lv_at hl 0 rfl) ?_
        refine lv_iconst (v := nI 2) hx hb dX1_cut_35 (by decide) ?_
        refine k_callVW (wr := []) (As := [.int (nI 2)]) (rest := []) ⟨hx, hb, hml, hown, hts⟩ (c_X1_fails l D cI cZ q th sh sp ld nm nk tx mn ds ct co st at0 ha tk (nI 2) (k_D_tt hD)) (cwV 1 hts gX1_cut_X1_fails rfl rfl rfl (by decide +kernel) ⟨Nat.le_of_ble_eq_true rfl, Nat.le_of_ble_eq_true rfl⟩) k_B_bl (k_B_of hP hK) (va_recv hK hP (ci := 1) (q0 := 0) rfl rfl) rfl hl.1 rfl (Nat.le_of_ble_eq_true rfl) dX1_cut_36 ⟨Nat.le_of_ble_eq_true rfl, Nat.le_of_ble_eq_true rfl⟩ hP hD hS [] [0, 1, 2, 3, 4, 5, 6, 7, 8, 9, 10] rfl rfl (fun _ => rfl) (fun u_36 H locs hu_36 hP hD hS hsz hkp => ?_)
        have hP : va_P D vwCl (wm cI cZ q (nI 2) sh sp ld nm nk tx mn ds ct co st at0 ha tk) H := hP
        have hD : va_D _ (wm cI cZ q (nI 2) sh sp ld nm nk tx mn ds ct co st at0 ha tk) := hD
        exact k_wiret (nI 2, none)  hx hb hr hlocks dX1_cut_39 (k_no (cd3_2 c_5 (by first | exact and_l c_20 | exact and_r (by rw [← rg_in d0 (n := 9) (by decide)]; exact c_31))) (by decide)) rfl hP hS (Nat.le_of_ble_eq_true rfl) (Nat.le_of_ble_eq_true rfl)
  · refine lv_aload_n hx hb dX1_cut_8 rfl (lv_at hl 0 rfl) ?_
    refine lv_iconst (v := nI 1) hx hb dX1_cut_9 (by decide) ?_
    refine k_callVW (wr := []) (As := [.int (nI 1)]) (rest := []) ⟨hx, hb, hml, hown, hts⟩ (c_X1_fails l D cI cZ q th sh sp ld nm nk tx mn ds ct co st at0 ha tk (nI 1) (k_D_tt hD)) (cwV 1 hts gX1_cut_X1_fails rfl rfl rfl (by decide +kernel) ⟨Nat.le_of_ble_eq_true rfl, Nat.le_of_ble_eq_true rfl⟩) k_B_bl (k_B_of hP hK) (va_recv hK hP (ci := 1) (q0 := 0) rfl rfl) rfl hl.1 rfl (Nat.le_of_ble_eq_true rfl) dX1_cut_10 ⟨Nat.le_of_ble_eq_true rfl, Nat.le_of_ble_eq_true rfl⟩ hP hD hS [] [0, 1, 2, 3, 4, 5, 6, 7, 8, 9, 10] rfl rfl (fun _ => rfl) (fun u_10 H locs hu_10 hP hD hS hsz hkp => ?_)
    have hP : va_P D vwCl (wm cI cZ q (nI 1) sh sp ld nm nk tx mn ds ct co st at0 ha tk) H := hP
    have hD : va_D _ (wm cI cZ q (nI 1) sh sp ld nm nk tx mn ds ct co st at0 ha tk) := hD
    exact k_wiret (nI 1, none)  hx hb hr hlocks dX1_cut_13 (k_no (cd3_1 c_5) (by decide)) rfl hP hS (Nat.le_of_ble_eq_true rfl) (Nat.le_of_ble_eq_true rfl)
set_option maxHeartbeats 4000000 in
set_option maxRecDepth 100000 in
theorem c_X1_remove (l : Launch) (D : va_G) (cI cZ : ClassId) (q : Nat → Nat) (th : Int32) (sh sp ld nm nk tx mn ds ct : Nat → Int32) (co : Int64) (st at0 ha : Int32) (tk : Nat → Int32) (p0 x0 : Int32) (K : Nat → Nat) (hG : ∀ w, w < 32 → K w ≤ 5 ∧ mn w = nI (K w)) (hDt : va_D (fun _ => True) (wm cI cZ q th sh sp ld nm nk tx mn ds ct co st at0 ha tk)) : Met l yX1_remove wsX1_remove ({ frames := 3, cells := 0, slots := 0, locals := 63 } : Room) (k_P [.ref (q 0), .int p0, .int x0] (k_B D (wm cI cZ q th sh sp ld nm nk tx mn ds ct co st at0 ha tk) [(cI, .int), (cZ, .boolean)])) (k_WQ D (wm cI cZ q th sh sp ld nm nk tx mn ds ct co st at0 ha tk) (fun u : Int32 × Option (Nat × Nat) => u.1 = nI (cd1 (inB p0 8 && inB x0 4)) ∧ u.2.elim (cd1 (inB p0 8 && inB x0 4) ≠ 0) (fun v => cd1 (inB p0 8 && inB x0 4) = 0 ∧ v.1 < 8 ∧ p0 = nI v.1 ∧ v.2 < 4 ∧ x0 = nI v.2)) (fun u => wm cI cZ q u.1 sh sp ld nm nk tx (u.2.elim mn (fun v => upd mn (4 * v.1 + v.2) (nI 0))) ds ct co st at0 ha tk) (fun u => some (.int (u.2.elim (nI 0) (fun v => bI (!decide (K (4 * v.1 + v.2) = 0))))))) 0 0 (k_A (wm cI cZ q th sh sp ld nm nk tx mn ds ct co st at0 ha tk)) := by
  refine k_head (cc := cX1_remove) (maxL := 4) (ret := (some .boolean)) [(0, .ref (q 0)), (1, .int p0), (2, .int x0)] (by decide) rfl (Nat.le_of_ble_eq_true rfl) rfl ?_
  intro p e s m below meth c ls hx hb hr hml hown hts hlocks hname hB hl
  have hown : s.vm.findClass RX1 = some m.cls := hown
  obtain ⟨hP, hK⟩ := hB
  have hin : ∀ w ∈ wsX10, w ∈ wsX1_remove := fun w h => List.mem_cons_of_mem _ (List.mem_append_right _ h)
  have hD := k_A_D hDt
  have hS : va_S (k_A (wm cI cZ q th sh sp ld nm nk tx mn ds ct co st at0 ha tk)) s.heap s.heap [] := va_S.rf
  refine lv_aload_n hx hb dX1_remove_0 rfl (lv_at hl 0 rfl) ?_
  refine lv_iload_n hx hb dX1_remove_1 rfl (lv_at hl 1 rfl) ?_
  refine lv_iload_n hx hb dX1_remove_2 rfl (lv_at hl 2 rfl) ?_
  refine k_callSi (As := [.int p0, .int x0]) (rest := [.ref (q 0)]) ⟨hx, hb, hml, hown, hts⟩ (c_X1_isExit l p0 x0) (va_cwS 2 hts gX1_remove_X1_isExit rfl rfl rfl (by decide +kernel) ⟨Nat.le_of_ble_eq_true rfl, Nat.le_of_ble_eq_true rfl⟩) k_bl_tt (fun _ _ _ => trivial) rfl hl.1 rfl (Nat.le_of_ble_eq_true rfl) dX1_remove_3 ⟨Nat.zero_le _, Nat.zero_le _⟩ ?_
  refine b_if_eq (tgt := 13) hx hb dX1_remove_6 (by decide) (fun c_6 => ?_) (fun c_6 => ?_)
  · refine lv_iconst (v := nI 1) hx hb dX1_remove_13 (by decide) ?_
    refine va_put (D := D) (ci := 1) (v := .int (nI 1)) (ty := .int) (C := RX1) (T := TX1) (N := 15) hx hb hts hin tyX1 tyX1_ok nmX1 hown hK hP hD hS 0 rfl rfl 0 (by decide) (hts (.fieldLink RX1 41 "SignRailModel" "thrown" "I") (by decide +kernel)) (fun _ h9 => h9) rfl (by decide +kernel) (rfl) (rfl) (Nat.le_of_ble_eq_true rfl) dX1_remove_14 (fun H locs hP hD hS => ?_)
    have hP : va_P D vwCl (wm cI cZ q (nI 1) sh sp ld nm nk tx mn ds ct co st at0 ha tk) H := hP
    have hD : va_D _ (wm cI cZ q (nI 1) sh sp ld nm nk tx mn ds ct co st at0 ha tk) := hD
    refine lv_aload_n hx hb dX1_remove_17 rfl (lv_at hl 0 rfl) ?_
    refine va_get (D := D) (ci := 1) (v := .int (nI 1)) (C := RX1) (T := TX1) (N := 15) hx hb hts hin hown hK hP 0 rfl rfl 0 (by decide) (hts (.fieldLink RX1 41 "SignRailModel" "thrown" "I") (by decide +kernel)) (fun _ h9 => h9) rfl dX1_remove_18 ?_
    refine n_if_le (tgt := 26) hx hb dX1_remove_21 (by decide) (by decide) (fun c_21 => absurd c_21 (by decide)) (fun _ => ?_)
    refine lv_iconst (v := nI 0) hx hb dX1_remove_24 (by decide) ?_
    exact k_wzret (nI 1, none) (false) hx hb hr hlocks dX1_remove_25 (rfl) (k_no (cd1_1 c_6) (by decide)) rfl hP hS (Nat.le_of_ble_eq_true rfl) (Nat.le_of_ble_eq_true rfl)
  · obtain ⟨he1, he2⟩ := Bool.and_eq_true_iff.mp c_6
    obtain ⟨p', hp', rfl⟩ := inB_ex (by decide) (he1)
    obtain ⟨x', hx', rfl⟩ := inB_ex (by decide) (he2)
    refine lv_iconst (v := nI 0) hx hb dX1_remove_9 (by decide) ?_
    refine lv_goto (tgt := 14) hx hb dX1_remove_10 (by decide) ?_
    refine va_put (D := D) (ci := 1) (v := .int (nI 0)) (ty := .int) (C := RX1) (T := TX1) (N := 15) hx hb hts hin tyX1 tyX1_ok nmX1 hown hK hP hD hS 0 rfl rfl 0 (by decide) (hts (.fieldLink RX1 41 "SignRailModel" "thrown" "I") (by decide +kernel)) (fun _ h9 => h9) rfl (by decide +kernel) (rfl) (rfl) (Nat.le_of_ble_eq_true rfl) dX1_remove_14 (fun H locs hP hD hS => ?_)
    have hP : va_P D vwCl (wm cI cZ q (nI 0) sh sp ld nm nk tx mn ds ct co st at0 ha tk) H := hP
    have hD : va_D _ (wm cI cZ q (nI 0) sh sp ld nm nk tx mn ds ct co st at0 ha tk) := hD
    refine lv_aload_n hx hb dX1_remove_17 rfl (lv_at hl 0 rfl) ?_
    refine va_get (D := D) (ci := 1) (v := .int (nI 0)) (C := RX1) (T := TX1) (N := 15) hx hb hts hin hown hK hP 0 rfl rfl 0 (by decide) (hts (.fieldLink RX1 41 "SignRailModel" "thrown" "I") (by decide +kernel)) (fun _ h9 => h9) rfl dX1_remove_18 ?_
    refine n_if_le (tgt := 26) hx hb dX1_remove_21 (by decide) (by decide) (fun _ => ?_) (fun c_21 => absurd c_21 (by decide))
    refine lv_aload_n hx hb dX1_remove_26 rfl (lv_at hl 0 rfl) ?_
    refine va_get (D := D) (ci := 1) (v := .ref (q 7)) (C := RX1) (T := TX1) (N := 15) hx hb hts hin hown hK hP 0 rfl rfl 7 (by decide) (hts (.fieldLink RX1 28 "SignRailModel" "many" "[I") (by decide +kernel)) (fun _ h9 => h9) rfl dX1_remove_27 ?_
    refine lv_iconst (v := nI 4) hx hb dX1_remove_30 (by decide) ?_
    refine lv_iload_n hx hb dX1_remove_31 rfl (lv_at hl 1 rfl) ?_
    refine lv_imul hx hb dX1_remove_32 ?_
    refine lv_as (y := nI (4 * p')) (pk_mul _ _) ?_
    refine lv_iload_n hx hb dX1_remove_33 rfl (lv_at hl 2 rfl) ?_
    refine lv_iadd hx hb dX1_remove_34 ?_
    refine lv_as (y := nI ((4 * p') + x')) (nI_add _ _) ?_
    refine n_iald hx hb hK hP 7 0 rfl rfl (k := ((4 * p') + x')) (by omega) (Nat.le_of_ble_eq_true rfl) dX1_remove_35 ?_
    refine lv_as (y := nI (K (4 * p' + x'))) ((hG _ (by omega)).2) ?_
    refine n_if_le (tgt := 43) hx hb dX1_remove_36 (by decide) (by have := (hG (4 * p' + x') (by omega)).1; omega) (fun c_36 => ?_) (fun c_36 => ?_)
    · refine lv_iconst (v := nI 0) hx hb dX1_remove_43 (by decide) ?_
      refine lv_as (y := bI (!decide (K (4 * p' + x') = 0))) (by rw [decide_eq_true c_36]; rfl) ?_
      refine lv_istore_n (lv' := [(3, .int (bI (!decide (K (4 * p' + x') = 0)))), (0, .ref (q 0)), (1, .int (nI p')), (2, .int (nI x'))]) hx hb dX1_remove_44 rfl hl (by decide) rfl (fun ls hl => ?_)
      refine lv_aload_n hx hb dX1_remove_45 rfl (lv_at hl 1 rfl) ?_
      refine va_get (D := D) (ci := 1) (v := .ref (q 7)) (C := RX1) (T := TX1) (N := 15) hx hb hts hin hown hK hP 0 rfl rfl 7 (by decide) (hts (.fieldLink RX1 28 "SignRailModel" "many" "[I") (by decide +kernel)) (fun _ h9 => h9) rfl dX1_remove_46 ?_
      refine lv_iconst (v := nI 4) hx hb dX1_remove_49 (by decide) ?_
      refine lv_iload_n hx hb dX1_remove_50 rfl (lv_at hl 2 rfl) ?_
      refine lv_imul hx hb dX1_remove_51 ?_
      refine lv_as (y := nI (4 * p')) (pk_mul _ _) ?_
      refine lv_iload_n hx hb dX1_remove_52 rfl (lv_at hl 3 rfl) ?_
      refine lv_iadd hx hb dX1_remove_53 ?_
      refine lv_as (y := nI ((4 * p') + x')) (nI_add _ _) ?_
      refine lv_iconst (v := nI 0) hx hb dX1_remove_54 (by decide) ?_
      refine n_iast hx hb hK hP hD hS 7 0 rfl rfl (k := ((4 * p') + x')) (by omega) (Nat.le_of_ble_eq_true rfl) dX1_remove_55 (fun H locs hP hD hS => ?_)
      have hP : va_P D vwCl (wm cI cZ q (nI 0) sh sp ld nm nk tx (upd mn ((4 * p') + x') (nI 0)) ds ct co st at0 ha tk) H := hP
      have hD : va_D _ (wm cI cZ q (nI 0) sh sp ld nm nk tx (upd mn ((4 * p') + x') (nI 0)) ds ct co st at0 ha tk) := hD
      refine lv_iload_n hx hb dX1_remove_56 rfl (lv_at hl 0 rfl) ?_
      exact k_wzret (nI 0, some (p', x')) (!decide (K (4 * p' + x') = 0)) hx hb hr hlocks dX1_remove_57 (rfl) (⟨(congrArg nI (cd1_0 c_6)).symm, (cd1_0 c_6), hp', rfl, hx', rfl⟩) rfl hP hS (Nat.le_of_ble_eq_true rfl) (Nat.le_of_ble_eq_true rfl)
    · refine lv_iconst (v := nI 1) hx hb dX1_remove_39 (by decide) ?_
      refine lv_as (y := bI (!decide (K (4 * p' + x') = 0))) (by rw [decide_eq_false (by omega)]; rfl) ?_
      refine lv_goto (tgt := 44) hx hb dX1_remove_40 (by decide) ?_
      refine lv_istore_n (lv' := [(3, .int (bI (!decide (K (4 * p' + x') = 0)))), (0, .ref (q 0)), (1, .int (nI p')), (2, .int (nI x'))]) hx hb dX1_remove_44 rfl hl (by decide) rfl (fun ls hl => ?_)
      refine lv_aload_n hx hb dX1_remove_45 rfl (lv_at hl 1 rfl) ?_
      refine va_get (D := D) (ci := 1) (v := .ref (q 7)) (C := RX1) (T := TX1) (N := 15) hx hb hts hin hown hK hP 0 rfl rfl 7 (by decide) (hts (.fieldLink RX1 28 "SignRailModel" "many" "[I") (by decide +kernel)) (fun _ h9 => h9) rfl dX1_remove_46 ?_
      refine lv_iconst (v := nI 4) hx hb dX1_remove_49 (by decide) ?_
      refine lv_iload_n hx hb dX1_remove_50 rfl (lv_at hl 2 rfl) ?_
      refine lv_imul hx hb dX1_remove_51 ?_
      refine lv_as (y := nI (4 * p')) (pk_mul _ _) ?_
      refine lv_iload_n hx hb dX1_remove_52 rfl (lv_at hl 3 rfl) ?_
      refine lv_iadd hx hb dX1_remove_53 ?_
      refine lv_as (y := nI ((4 * p') + x')) (nI_add _ _) ?_
      refine lv_iconst (v := nI 0) hx hb dX1_remove_54 (by decide) ?_
      refine n_iast hx hb hK hP hD hS 7 0 rfl rfl (k := ((4 * p') + x')) (by omega) (Nat.le_of_ble_eq_true rfl) dX1_remove_55 (fun H locs hP hD hS => ?_)
      have hP : va_P D vwCl (wm cI cZ q (nI 0) sh sp ld nm nk tx (upd mn ((4 * p') + x') (nI 0)) ds ct co st at0 ha tk) H := hP
      have hD : va_D _ (wm cI cZ q (nI 0) sh sp ld nm nk tx (upd mn ((4 * p') + x') (nI 0)) ds ct co st at0 ha tk) := hD
      refine lv_iload_n hx hb dX1_remove_56 rfl (lv_at hl 0 rfl) ?_
      exact k_wzret (nI 0, some (p', x')) (!decide (K (4 * p' + x') = 0)) hx hb hr hlocks dX1_remove_57 (rfl) (⟨(congrArg nI (cd1_0 c_6)).symm, (cd1_0 c_6), hp', rfl, hx', rfl⟩) rfl hP hS (Nat.le_of_ble_eq_true rfl) (Nat.le_of_ble_eq_true rfl)
set_option maxHeartbeats 4000000 in
set_option maxRecDepth 100000 in
theorem c_X1_isOld (l : Launch) (D : va_G) (cI cZ : ClassId) (q : Nat → Nat) (th : Int32) (sh sp ld nm nk tx mn ds ct : Nat → Int32) (co : Int64) (st at0 ha : Int32) (tk : Nat → Int32) (p0 x0 : Int32) (T K : Nat → Nat) (hG : ∀ w, w < 32 → T w < 32768 ∧ K w ≤ 5 ∧ tx w = nI (T w) ∧ mn w = nI (K w)) (hDt : va_D (fun _ => True) (wm cI cZ q th sh sp ld nm nk tx mn ds ct co st at0 ha tk)) : Met l yX1_isOld wsX1_isOld ({ frames := 3, cells := 0, slots := 0, locals := 67 } : Room) (k_P [.ref (q 0), .int p0, .int x0] (k_B D (wm cI cZ q th sh sp ld nm nk tx mn ds ct co st at0 ha tk) [(cI, .int), (cZ, .boolean)])) (k_WQ D (wm cI cZ q th sh sp ld nm nk tx mn ds ct co st at0 ha tk) (fun u : Int32 × Option (Nat × Nat) => u.1 = nI (cd1 (inB p0 8 && inB x0 4)) ∧ u.2.elim (cd1 (inB p0 8 && inB x0 4) ≠ 0) (fun v => cd1 (inB p0 8 && inB x0 4) = 0 ∧ v.1 < 8 ∧ p0 = nI v.1 ∧ v.2 < 4 ∧ x0 = nI v.2)) (fun u => wm cI cZ q u.1 sh sp ld nm nk tx mn ds ct co st at0 ha tk) (fun u => some (.int (u.2.elim (nI 0) (fun v => bI (anyB (oldR sh ct (4 * v.1 + v.2) (T (4 * v.1 + v.2)) (K (4 * v.1 + v.2))) (K (4 * v.1 + v.2)))))))) 0 0 (k_A (wm cI cZ q th sh sp ld nm nk tx mn ds ct co st at0 ha tk)) := by
  refine k_head (cc := cX1_isOld) (maxL := 3) (ret := (some .boolean)) [(0, .ref (q 0)), (1, .int p0), (2, .int x0)] (by decide) rfl (Nat.le_of_ble_eq_true rfl) rfl ?_
  intro p e s m below meth c ls hx hb hr hml hown hts hlocks hname hB hl
  have hown : s.vm.findClass RX1 = some m.cls := hown
  obtain ⟨hP, hK⟩ := hB
  have hin : ∀ w ∈ wsX10, w ∈ wsX1_isOld := fun w h => List.mem_cons_of_mem _ (List.mem_append_right _ h)
  have hD := k_A_D hDt
  have hS : va_S (k_A (wm cI cZ q th sh sp ld nm nk tx mn ds ct co st at0 ha tk)) s.heap s.heap [] := va_S.rf
  refine lv_aload_n hx hb dX1_isOld_0 rfl (lv_at hl 0 rfl) ?_
  refine lv_iload_n hx hb dX1_isOld_1 rfl (lv_at hl 1 rfl) ?_
  refine lv_iload_n hx hb dX1_isOld_2 rfl (lv_at hl 2 rfl) ?_
  refine k_callSi (As := [.int p0, .int x0]) (rest := [.ref (q 0)]) ⟨hx, hb, hml, hown, hts⟩ (c_X1_isExit l p0 x0) (va_cwS 2 hts gX1_isOld_X1_isExit rfl rfl rfl (by decide +kernel) ⟨Nat.le_of_ble_eq_true rfl, Nat.le_of_ble_eq_true rfl⟩) k_bl_tt (fun _ _ _ => trivial) rfl hl.1 rfl (Nat.le_of_ble_eq_true rfl) dX1_isOld_3 ⟨Nat.zero_le _, Nat.zero_le _⟩ ?_
  refine b_if_eq (tgt := 13) hx hb dX1_isOld_6 (by decide) (fun c_6 => ?_) (fun c_6 => ?_)
  · refine lv_iconst (v := nI 1) hx hb dX1_isOld_13 (by decide) ?_
    refine va_put (D := D) (ci := 1) (v := .int (nI 1)) (ty := .int) (C := RX1) (T := TX1) (N := 15) hx hb hts hin tyX1 tyX1_ok nmX1 hown hK hP hD hS 0 rfl rfl 0 (by decide) (hts (.fieldLink RX1 41 "SignRailModel" "thrown" "I") (by decide +kernel)) (fun _ h9 => h9) rfl (by decide +kernel) (rfl) (rfl) (Nat.le_of_ble_eq_true rfl) dX1_isOld_14 (fun H locs hP hD hS => ?_)
    have hP : va_P D vwCl (wm cI cZ q (nI 1) sh sp ld nm nk tx mn ds ct co st at0 ha tk) H := hP
    have hD : va_D _ (wm cI cZ q (nI 1) sh sp ld nm nk tx mn ds ct co st at0 ha tk) := hD
    refine lv_aload_n hx hb dX1_isOld_17 rfl (lv_at hl 0 rfl) ?_
    refine va_get (D := D) (ci := 1) (v := .int (nI 1)) (C := RX1) (T := TX1) (N := 15) hx hb hts hin hown hK hP 0 rfl rfl 0 (by decide) (hts (.fieldLink RX1 41 "SignRailModel" "thrown" "I") (by decide +kernel)) (fun _ h9 => h9) rfl dX1_isOld_18 ?_
    refine n_if_ne (tgt := 40) hx hb dX1_isOld_21 (by decide) (by decide) (fun _ => ?_) (fun c_21 => absurd c_21 (by decide))
    refine lv_iconst (v := nI 0) hx hb dX1_isOld_40 (by decide) ?_
    refine lv_as (y := nI 0) (rfl) ?_
    exact k_wzret (nI 1, none) (false) hx hb hr hlocks dX1_isOld_41 (rfl) (k_no (cd1_1 c_6) (by decide)) rfl hP hS (Nat.le_of_ble_eq_true rfl) (Nat.le_of_ble_eq_true rfl)
  · obtain ⟨he1, he2⟩ := Bool.and_eq_true_iff.mp c_6
    obtain ⟨p', hp', rfl⟩ := inB_ex (by decide) (he1)
    obtain ⟨x', hx', rfl⟩ := inB_ex (by decide) (he2)
    refine lv_iconst (v := nI 0) hx hb dX1_isOld_9 (by decide) ?_
    refine lv_goto (tgt := 14) hx hb dX1_isOld_10 (by decide) ?_
    refine va_put (D := D) (ci := 1) (v := .int (nI 0)) (ty := .int) (C := RX1) (T := TX1) (N := 15) hx hb hts hin tyX1 tyX1_ok nmX1 hown hK hP hD hS 0 rfl rfl 0 (by decide) (hts (.fieldLink RX1 41 "SignRailModel" "thrown" "I") (by decide +kernel)) (fun _ h9 => h9) rfl (by decide +kernel) (rfl) (rfl) (Nat.le_of_ble_eq_true rfl) dX1_isOld_14 (fun H locs hP hD hS => ?_)
    have hP : va_P D vwCl (wm cI cZ q (nI 0) sh sp ld nm nk tx mn ds ct co st at0 ha tk) H := hP
    have hD : va_D _ (wm cI cZ q (nI 0) sh sp ld nm nk tx mn ds ct co st at0 ha tk) := hD
    refine lv_aload_n hx hb dX1_isOld_17 rfl (lv_at hl 0 rfl) ?_
    refine va_get (D := D) (ci := 1) (v := .int (nI 0)) (C := RX1) (T := TX1) (N := 15) hx hb hts hin hown hK hP 0 rfl rfl 0 (by decide) (hts (.fieldLink RX1 41 "SignRailModel" "thrown" "I") (by decide +kernel)) (fun _ h9 => h9) rfl dX1_isOld_18 ?_
    refine n_if_ne (tgt := 40) hx hb dX1_isOld_21 (by decide) (by decide) (fun c_21 => absurd c_21 (by decide)) (fun _ => ?_)
    refine lv_aload_n hx hb dX1_isOld_24 rfl (lv_at hl 0 rfl) ?_
    refine lv_iconst (v := nI 4) hx hb dX1_isOld_25 (by decide) ?_
    refine lv_iload_n hx hb dX1_isOld_26 rfl (lv_at hl 1 rfl) ?_
    refine lv_imul hx hb dX1_isOld_27 ?_
    refine lv_as (y := nI (4 * p')) (pk_mul _ _) ?_
    refine lv_iload_n hx hb dX1_isOld_28 rfl (lv_at hl 2 rfl) ?_
    refine lv_iadd hx hb dX1_isOld_29 ?_
    refine lv_as (y := nI ((4 * p') + x')) (nI_add _ _) ?_
    refine k_callVi (As := [.int (nI ((4 * p') + x'))]) (rest := []) ⟨hx, hb, hml, hown, hts⟩ (c_X1_old l D cI cZ q (nI 0) sh sp ld nm nk tx mn ds ct co st at0 ha tk ((4 * p') + x') (T ((4 * p') + x')) (K ((4 * p') + x')) (by omega) (hG _ (by omega)).1 (hG _ (by omega)).2.1 (hG _ (by omega)).2.2.1 (hG _ (by omega)).2.2.2) (cwV 1 hts gX1_isOld_X1_old rfl rfl rfl (by decide +kernel) ⟨Nat.le_of_ble_eq_true rfl, Nat.le_of_ble_eq_true rfl⟩) k_B_bl (k_B_of hP hK) (va_recv hK hP (ci := 1) (q0 := 0) rfl rfl) rfl hl.1 rfl (Nat.le_of_ble_eq_true rfl) dX1_isOld_30 ⟨Nat.zero_le _, Nat.zero_le _⟩ ?_
    refine b_if_eq (tgt := 40) hx hb dX1_isOld_33 (by decide) (fun c_33 => ?_) (fun c_33 => ?_)
    · refine lv_iconst (v := nI 0) hx hb dX1_isOld_40 (by decide) ?_
      refine lv_as (y := bI (anyB (oldR sh ct (4 * p' + x') (T (4 * p' + x')) (K (4 * p' + x'))) (K (4 * p' + x')))) (by rw [c_33]; rfl) ?_
      exact k_wzret (nI 0, some (p', x')) (anyB (oldR sh ct (4 * p' + x') (T (4 * p' + x')) (K (4 * p' + x'))) (K (4 * p' + x'))) hx hb hr hlocks dX1_isOld_41 (rfl) (⟨(congrArg nI (cd1_0 c_6)).symm, (cd1_0 c_6), hp', rfl, hx', rfl⟩) rfl hP hS (Nat.le_of_ble_eq_true rfl) (Nat.le_of_ble_eq_true rfl)
    · refine lv_iconst (v := nI 1) hx hb dX1_isOld_36 (by decide) ?_
      refine lv_as (y := bI (anyB (oldR sh ct (4 * p' + x') (T (4 * p' + x')) (K (4 * p' + x'))) (K (4 * p' + x')))) (by rw [c_33]; rfl) ?_
      refine lv_goto (tgt := 41) hx hb dX1_isOld_37 (by decide) ?_
      exact k_wzret (nI 0, some (p', x')) (anyB (oldR sh ct (4 * p' + x') (T (4 * p' + x')) (K (4 * p' + x'))) (K (4 * p' + x'))) hx hb hr hlocks dX1_isOld_41 (rfl) (⟨(congrArg nI (cd1_0 c_6)).symm, (cd1_0 c_6), hp', rfl, hx', rfl⟩) rfl hP hS (Nat.le_of_ble_eq_true rfl) (Nat.le_of_ble_eq_true rfl)
set_option maxHeartbeats 4000000 in
set_option maxRecDepth 100000 in
theorem c_X1_read (l : Launch) (D : va_G) (cI cZ : ClassId) (q : Nat → Nat) (th : Int32) (sh sp ld nm nk tx mn ds ct : Nat → Int32) (co : Int64) (st at0 ha : Int32) (tk : Nat → Int32) (p0 x0 : Int32) (T K : Nat → Nat) (hG : ∀ w, w < 32 → T w < 32768 ∧ K w ≤ 5 ∧ tx w = nI (T w) ∧ mn w = nI (K w)) (hDt : va_D (fun _ => True) (wm cI cZ q th sh sp ld nm nk tx mn ds ct co st at0 ha tk)) : Met l yX1_read wsX1_read ({ frames := 3, cells := 0, slots := 0, locals := 74 } : Room) (k_P [.ref (q 0), .int p0, .int x0] (k_B D (wm cI cZ q th sh sp ld nm nk tx mn ds ct co st at0 ha tk) [(cI, .int), (cZ, .boolean)])) (k_WQ D (wm cI cZ q th sh sp ld nm nk tx mn ds ct co st at0 ha tk) (fun u : Int32 × Option (Nat × Nat) => u.1 = nI (cd1 (inB p0 8 && inB x0 4)) ∧ u.2.elim (cd1 (inB p0 8 && inB x0 4) ≠ 0) (fun v => cd1 (inB p0 8 && inB x0 4) = 0 ∧ v.1 < 8 ∧ p0 = nI v.1 ∧ v.2 < 4 ∧ x0 = nI v.2)) (fun u => wm cI cZ q u.1 sh sp ld nm nk tx mn ds ct co st at0 ha tk) (fun u => some (.int (u.2.elim (nI 0) (fun v => if K (4 * v.1 + v.2) = 0 then (-1) else nI (rrN (rdR sh ct ds (4 * v.1 + v.2)) (K (4 * v.1 + v.2)))))))) 0 0 (k_A (wm cI cZ q th sh sp ld nm nk tx mn ds ct co st at0 ha tk)) := by
  refine k_head (cc := cX1_read) (maxL := 4) (ret := (some .int)) [(0, .ref (q 0)), (1, .int p0), (2, .int x0)] (by decide) rfl (Nat.le_of_ble_eq_true rfl) rfl ?_
  intro p e s m below meth c ls hx hb hr hml hown hts hlocks hname hB hl
  have hown : s.vm.findClass RX1 = some m.cls := hown
  obtain ⟨hP, hK⟩ := hB
  have hin : ∀ w ∈ wsX10, w ∈ wsX1_read := fun w h => List.mem_cons_of_mem _ (List.mem_append_right _ h)
  have hD := k_A_D hDt
  have hS : va_S (k_A (wm cI cZ q th sh sp ld nm nk tx mn ds ct co st at0 ha tk)) s.heap s.heap [] := va_S.rf
  refine lv_aload_n hx hb dX1_read_0 rfl (lv_at hl 0 rfl) ?_
  refine lv_iload_n hx hb dX1_read_1 rfl (lv_at hl 1 rfl) ?_
  refine lv_iload_n hx hb dX1_read_2 rfl (lv_at hl 2 rfl) ?_
  refine k_callSi (As := [.int p0, .int x0]) (rest := [.ref (q 0)]) ⟨hx, hb, hml, hown, hts⟩ (c_X1_isExit l p0 x0) (va_cwS 2 hts gX1_read_X1_isExit rfl rfl rfl (by decide +kernel) ⟨Nat.le_of_ble_eq_true rfl, Nat.le_of_ble_eq_true rfl⟩) k_bl_tt (fun _ _ _ => trivial) rfl hl.1 rfl (Nat.le_of_ble_eq_true rfl) dX1_read_3 ⟨Nat.zero_le _, Nat.zero_le _⟩ ?_
  refine b_if_eq (tgt := 13) hx hb dX1_read_6 (by decide) (fun c_6 => ?_) (fun c_6 => ?_)
  · refine lv_iconst (v := nI 1) hx hb dX1_read_13 (by decide) ?_
    refine va_put (D := D) (ci := 1) (v := .int (nI 1)) (ty := .int) (C := RX1) (T := TX1) (N := 15) hx hb hts hin tyX1 tyX1_ok nmX1 hown hK hP hD hS 0 rfl rfl 0 (by decide) (hts (.fieldLink RX1 41 "SignRailModel" "thrown" "I") (by decide +kernel)) (fun _ h9 => h9) rfl (by decide +kernel) (rfl) (rfl) (Nat.le_of_ble_eq_true rfl) dX1_read_14 (fun H locs hP hD hS => ?_)
    have hP : va_P D vwCl (wm cI cZ q (nI 1) sh sp ld nm nk tx mn ds ct co st at0 ha tk) H := hP
    have hD : va_D _ (wm cI cZ q (nI 1) sh sp ld nm nk tx mn ds ct co st at0 ha tk) := hD
    refine lv_iconst (v := nI 4) hx hb dX1_read_17 (by decide) ?_
    refine lv_iload_n hx hb dX1_read_18 rfl (lv_at hl 1 rfl) ?_
    refine lv_imul hx hb dX1_read_19 ?_
    refine lv_iload_n hx hb dX1_read_20 rfl (lv_at hl 2 rfl) ?_
    refine lv_iadd hx hb dX1_read_21 ?_
    refine lv_istore_n (lv' := [(3, .int (((nI 4) * p0) + x0)), (0, .ref (q 0)), (1, .int p0), (2, .int x0)]) hx hb dX1_read_22 rfl hl (by decide) rfl (fun ls hl => ?_)
    refine lv_aload_n hx hb dX1_read_23 rfl (lv_at hl 1 rfl) ?_
    refine va_get (D := D) (ci := 1) (v := .int (nI 1)) (C := RX1) (T := TX1) (N := 15) hx hb hts hin hown hK hP 0 rfl rfl 0 (by decide) (hts (.fieldLink RX1 41 "SignRailModel" "thrown" "I") (by decide +kernel)) (fun _ h9 => h9) rfl dX1_read_24 ?_
    refine n_if_le (tgt := 34) hx hb dX1_read_27 (by decide) (by decide) (fun c_27 => absurd c_27 (by decide)) (fun _ => ?_)
    refine lv_iconst (v := nI 0) hx hb dX1_read_30 (by decide) ?_
    refine lv_goto (tgt := 52) hx hb dX1_read_31 (by decide) ?_
    exact k_wiret (nI 1, none)  hx hb hr hlocks dX1_read_52 (k_no (cd1_1 c_6) (by decide)) rfl hP hS (Nat.le_of_ble_eq_true rfl) (Nat.le_of_ble_eq_true rfl)
  · obtain ⟨he1, he2⟩ := Bool.and_eq_true_iff.mp c_6
    obtain ⟨p', hp', rfl⟩ := inB_ex (by decide) (he1)
    obtain ⟨x', hx', rfl⟩ := inB_ex (by decide) (he2)
    refine lv_iconst (v := nI 0) hx hb dX1_read_9 (by decide) ?_
    refine lv_goto (tgt := 14) hx hb dX1_read_10 (by decide) ?_
    refine va_put (D := D) (ci := 1) (v := .int (nI 0)) (ty := .int) (C := RX1) (T := TX1) (N := 15) hx hb hts hin tyX1 tyX1_ok nmX1 hown hK hP hD hS 0 rfl rfl 0 (by decide) (hts (.fieldLink RX1 41 "SignRailModel" "thrown" "I") (by decide +kernel)) (fun _ h9 => h9) rfl (by decide +kernel) (rfl) (rfl) (Nat.le_of_ble_eq_true rfl) dX1_read_14 (fun H locs hP hD hS => ?_)
    have hP : va_P D vwCl (wm cI cZ q (nI 0) sh sp ld nm nk tx mn ds ct co st at0 ha tk) H := hP
    have hD : va_D _ (wm cI cZ q (nI 0) sh sp ld nm nk tx mn ds ct co st at0 ha tk) := hD
    refine lv_iconst (v := nI 4) hx hb dX1_read_17 (by decide) ?_
    refine lv_iload_n hx hb dX1_read_18 rfl (lv_at hl 1 rfl) ?_
    refine lv_imul hx hb dX1_read_19 ?_
    refine lv_as (y := nI (4 * p')) (pk_mul _ _) ?_
    refine lv_iload_n hx hb dX1_read_20 rfl (lv_at hl 2 rfl) ?_
    refine lv_iadd hx hb dX1_read_21 ?_
    refine lv_as (y := nI ((4 * p') + x')) (nI_add _ _) ?_
    refine lv_istore_n (lv' := [(3, .int (nI ((4 * p') + x'))), (0, .ref (q 0)), (1, .int (nI p')), (2, .int (nI x'))]) hx hb dX1_read_22 rfl hl (by decide) rfl (fun ls hl => ?_)
    refine lv_aload_n hx hb dX1_read_23 rfl (lv_at hl 1 rfl) ?_
    refine va_get (D := D) (ci := 1) (v := .int (nI 0)) (C := RX1) (T := TX1) (N := 15) hx hb hts hin hown hK hP 0 rfl rfl 0 (by decide) (hts (.fieldLink RX1 41 "SignRailModel" "thrown" "I") (by decide +kernel)) (fun _ h9 => h9) rfl dX1_read_24 ?_
    refine n_if_le (tgt := 34) hx hb dX1_read_27 (by decide) (by decide) (fun _ => ?_) (fun c_27 => absurd c_27 (by decide))
    refine lv_aload_n hx hb dX1_read_34 rfl (lv_at hl 1 rfl) ?_
    refine va_get (D := D) (ci := 1) (v := .ref (q 7)) (C := RX1) (T := TX1) (N := 15) hx hb hts hin hown hK hP 0 rfl rfl 7 (by decide) (hts (.fieldLink RX1 28 "SignRailModel" "many" "[I") (by decide +kernel)) (fun _ h9 => h9) rfl dX1_read_35 ?_
    refine lv_iload_n hx hb dX1_read_38 rfl (lv_at hl 0 rfl) ?_
    refine n_iald hx hb hK hP 7 0 rfl rfl (k := ((4 * p') + x')) (by omega) (Nat.le_of_ble_eq_true rfl) dX1_read_39 ?_
    refine lv_as (y := nI (K (4 * p' + x'))) ((hG _ (by omega)).2.2.2) ?_
    refine n_if_ne (tgt := 47) hx hb dX1_read_40 (by decide) (by have := (hG (4 * p' + x') (by omega)).2.1; omega) (fun c_40 => ?_) (fun c_40 => ?_)
    · refine lv_aload_n hx hb dX1_read_47 rfl (lv_at hl 1 rfl) ?_
      refine lv_iload_n hx hb dX1_read_48 rfl (lv_at hl 0 rfl) ?_
      refine k_callVi (As := [.int (nI ((4 * p') + x'))]) (rest := []) ⟨hx, hb, hml, hown, hts⟩ (c_X1_reads l D cI cZ q (nI 0) sh sp ld nm nk tx mn ds ct co st at0 ha tk ((4 * p') + x') (K ((4 * p') + x')) (by omega) (hG _ (by omega)).2.1 (hG _ (by omega)).2.2.2) (cwV 1 hts gX1_read_X1_reads rfl rfl rfl (by decide +kernel) ⟨Nat.le_of_ble_eq_true rfl, Nat.le_of_ble_eq_true rfl⟩) k_B_bl (k_B_of hP hK) (va_recv hK hP (ci := 1) (q0 := 0) rfl rfl) rfl hl.1 rfl (Nat.le_of_ble_eq_true rfl) dX1_read_49 ⟨Nat.zero_le _, Nat.zero_le _⟩ ?_
      refine lv_as (y := if K (4 * p' + x') = 0 then (-1) else nI (rrN (rdR sh ct ds (4 * p' + x')) (K (4 * p' + x')))) ((if_neg (by omega)).symm) ?_
      exact k_wiret (nI 0, some (p', x'))  hx hb hr hlocks dX1_read_52 (⟨(congrArg nI (cd1_0 c_6)).symm, (cd1_0 c_6), hp', rfl, hx', rfl⟩) rfl hP hS (Nat.le_of_ble_eq_true rfl) (Nat.le_of_ble_eq_true rfl)
    · refine lv_iconst (v := (-1)) hx hb dX1_read_43 (by decide) ?_
      refine lv_goto (tgt := 52) hx hb dX1_read_44 (by decide) ?_
      refine lv_as (y := if K (4 * p' + x') = 0 then (-1) else nI (rrN (rdR sh ct ds (4 * p' + x')) (K (4 * p' + x')))) ((if_pos c_40).symm) ?_
      exact k_wiret (nI 0, some (p', x'))  hx hb hr hlocks dX1_read_52 (⟨(congrArg nI (cd1_0 c_6)).symm, (cd1_0 c_6), hp', rfl, hx', rfl⟩) rfl hP hS (Nat.le_of_ble_eq_true rfl) (Nat.le_of_ble_eq_true rfl)
set_option maxHeartbeats 4000000 in
set_option maxRecDepth 100000 in
theorem c_X1_cost (l : Launch) (D : va_G) (cI cZ : ClassId) (q : Nat → Nat) (th : Int32) (sh sp ld nm nk tx mn ds ct : Nat → Int32) (co : Int64) (st at0 ha : Int32) (tk : Nat → Int32) (hDt : va_D (fun _ => True) (wm cI cZ q th sh sp ld nm nk tx mn ds ct co st at0 ha tk)) : Met l yX1_cost wsX1_cost ({ frames := 0, cells := 0, slots := 0, locals := 0 } : Room) (k_P [.ref (q 0)] (k_B D (wm cI cZ q th sh sp ld nm nk tx mn ds ct co st at0 ha tk) [(cI, .int), (cZ, .boolean)])) (k_WQ D (wm cI cZ q th sh sp ld nm nk tx mn ds ct co st at0 ha tk) (fun u : Unit => True) (fun u => wm cI cZ q (nI 0) sh sp ld nm nk tx mn ds ct co st at0 ha tk) (fun u => some (.long co))) 0 0 (k_A (wm cI cZ q th sh sp ld nm nk tx mn ds ct co st at0 ha tk)) := by
  refine k_head (cc := cX1_cost) (maxL := 1) (ret := (some .long)) [(0, .ref (q 0))] (by decide) rfl (Nat.le_of_ble_eq_true rfl) rfl ?_
  intro p e s m below meth c ls hx hb hr hml hown hts hlocks hname hB hl
  have hown : s.vm.findClass RX1 = some m.cls := hown
  obtain ⟨hP, hK⟩ := hB
  have hin : ∀ w ∈ wsX10, w ∈ wsX1_cost := fun w h => List.mem_cons_of_mem _ (List.mem_append_right _ h)
  have hD := k_A_D hDt
  have hS : va_S (k_A (wm cI cZ q th sh sp ld nm nk tx mn ds ct co st at0 ha tk)) s.heap s.heap [] := va_S.rf
  refine lv_aload_n hx hb dX1_cost_0 rfl (lv_at hl 0 rfl) ?_
  refine lv_iconst (v := nI 0) hx hb dX1_cost_1 (by decide) ?_
  refine va_put (D := D) (ci := 1) (v := .int (nI 0)) (ty := .int) (C := RX1) (T := TX1) (N := 15) hx hb hts hin tyX1 tyX1_ok nmX1 hown hK hP hD hS 0 rfl rfl 0 (by decide) (hts (.fieldLink RX1 41 "SignRailModel" "thrown" "I") (by decide +kernel)) (fun _ h9 => h9) rfl (by decide +kernel) (rfl) (rfl) (Nat.le_of_ble_eq_true rfl) dX1_cost_2 (fun H locs hP hD hS => ?_)
  have hP : va_P D vwCl (wm cI cZ q (nI 0) sh sp ld nm nk tx mn ds ct co st at0 ha tk) H := hP
  have hD : va_D _ (wm cI cZ q (nI 0) sh sp ld nm nk tx mn ds ct co st at0 ha tk) := hD
  refine lv_aload_n hx hb dX1_cost_5 rfl (lv_at hl 0 rfl) ?_
  refine va_get (D := D) (ci := 1) (v := .long co) (C := RX1) (T := TX1) (N := 15) hx hb hts hin hown hK hP 0 rfl rfl 10 (by decide) (hts (.fieldLink RX1 84 "SignRailModel" "cost" "J") (by decide +kernel)) (fun _ h9 => h9) rfl dX1_cost_6 ?_
  exact k_wlret (())  hx hb hr hlocks dX1_cost_9 (trivial) rfl hP hS (Nat.le_of_ble_eq_true rfl) (Nat.le_of_ble_eq_true rfl)
