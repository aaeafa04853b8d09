set_option maxHeartbeats 4000000 in
set_option maxRecDepth 100000 in
theorem c_X1_walk (l : Launch) (D : va_G) (cI cZ : ClassId) (q : Nat → Nat) (th : Int32) (sh sp ld nm nk tx mn ds ct : Nat → Int32) (co : Int64) (st at0 ha : Int32) (tk : Nat → Int32) (p0 t m0 : Int32) (K Ld : Nat → Nat) (hGk : ∀ w, w < 32 → K w ≤ 5 ∧ mn w = nI (K w)) (hLd : ∀ w, w < 32 → Ld w ≤ 8 ∧ ld w = ix (Ld w)) (NT NK : Nat → Nat) (hN : ∀ p, p < 8 → NT p < 32768 ∧ NK p ≤ 5 ∧ nm p = nI (NT p) ∧ nk p = nI (NK p)) (hDt : va_D (fun _ => True) (wm cI cZ q th sh sp ld nm nk tx mn ds ct co st at0 ha tk)) : Met l yX1_walk wsX1_walk ({ frames := 5, cells := 0, slots := 0, locals := 127 } : Room) (k_P [.ref (q 0), .int p0, .int t, .int m0] (k_B D (wm cI cZ q th sh sp ld nm nk tx mn ds ct co st at0 ha tk) [(cI, .int), (cZ, .boolean)])) (k_WQ D (wm cI cZ q th sh sp ld nm nk tx mn ds ct co st at0 ha tk) (fun u : Int32 × Option ((Nat × Nat × Nat) × (Nat → Int32) × Int32 × Int32 × Int32) => u.1 = nI (cd2 (inB p0 8) (txB t m0)) ∧ u.2.elim (cd2 (inB p0 8) (txB t m0) ≠ 0) (fun v => cd2 (inB p0 8) (txB t m0) = 0 ∧ v.1.1 < 8 ∧ p0 = nI v.1.1 ∧ 1 ≤ v.1.2.2 ∧ v.1.2.2 ≤ 5 ∧ v.1.2.1 < 8 ^ v.1.2.2 ∧ t = nI v.1.2.1 ∧ m0 = nI v.1.2.2)) (fun u => wm cI cZ q u.1 sh sp ld nm nk tx mn ds ct co (u.2.elim st (fun v => v.2.2.1)) (u.2.elim at0 (fun v => v.2.2.2.1)) (u.2.elim ha (fun v => v.2.2.2.2)) (u.2.elim tk (fun v => v.2.1))) (fun u => some (.int (u.2.elim (nI 0) (fun v => sa (toldR sh ct ds K v.1.2.2 v.1.2.1) Ld (arrC NK NT v.1.2.2 v.1.2.1) 31 0 v.1.1 tk0))))) 0 0 (k_A (wm cI cZ q th sh sp ld nm nk tx mn ds ct co st at0 ha tk)) := by
  refine k_head (cc := cX1_walk) (maxL := 4) (ret := (some .int)) [(0, .ref (q 0)), (1, .int p0), (2, .int t), (3, .int m0)] (by decide) rfl (Nat.le_of_ble_eq_true rfl) rfl ?_
  intro p e s m below meth c ls hx hb hr hml hown hts hlocks hname hB hl
  have hown : s.vm.findClass RX1 = some m.cls := hown
  obtain ⟨hP, hK⟩ := hB
  have hin : ∀ w ∈ wsX10, w ∈ wsX1_walk := fun w h => List.mem_cons_of_mem _ (List.mem_append_right _ h)
  have hD := k_A_D hDt
  have hS : va_S (k_A (wm cI cZ q th sh sp ld nm nk tx mn ds ct co st at0 ha tk)) s.heap s.heap [] := va_S.rf
  refine lv_aload_n hx hb dX1_walk_0 rfl (lv_at hl 0 rfl) ?_
  refine lv_iload_n hx hb dX1_walk_1 rfl (lv_at hl 1 rfl) ?_
  refine k_callSi (As := [.int p0]) (rest := [.ref (q 0)]) ⟨hx, hb, hml, hown, hts⟩ (c_X1_isPlace l p0) (va_cwS 1 hts gX1_walk_X1_isPlace rfl rfl rfl (by decide +kernel) ⟨Nat.le_of_ble_eq_true rfl, Nat.le_of_ble_eq_true rfl⟩) k_bl_tt (fun _ _ _ => trivial) rfl hl.1 rfl (Nat.le_of_ble_eq_true rfl) dX1_walk_2 ⟨Nat.zero_le _, Nat.zero_le _⟩ ?_
  refine b_if_ne (tgt := 12) hx hb dX1_walk_5 (by decide) (fun c_5 => ?_) (fun c_5 => ?_)
  · obtain ⟨p', hp', rfl⟩ := inB_ex (by decide) (c_5)
    refine lv_iload_n hx hb dX1_walk_12 rfl (lv_at hl 2 rfl) ?_
    refine lv_iload_n hx hb dX1_walk_13 rfl (lv_at hl 3 rfl) ?_
    refine k_callSi (As := [.int t, .int m0]) (rest := [.ref (q 0)]) ⟨hx, hb, hml, hown, hts⟩ (c_X1_isText l t m0) (va_cwS 2 hts gX1_walk_X1_isText rfl rfl rfl (by decide +kernel) ⟨Nat.le_of_ble_eq_true rfl, Nat.le_of_ble_eq_true rfl⟩) k_bl_tt (fun _ _ _ => trivial) rfl hl.1 rfl (Nat.le_of_ble_eq_true rfl) dX1_walk_14 ⟨Nat.zero_le _, Nat.zero_le _⟩ ?_
    refine b_if_eq (tgt := 24) hx hb dX1_walk_17 (by decide) (fun c_17 => ?_) (fun c_17 => ?_)
    · refine lv_iconst (v := nI 2) hx hb dX1_walk_24 (by decide) ?_
      refine va_put (D := D) (ci := 1) (v := .int (nI 2)) (ty := .int) (C := RX1) (T := TX1) (N := 15) hx hb hts hin tyX1 tyX1_ok nmX1 hown hK hP hD hS 0 rfl rfl 0 (by decide) (hts (.fieldLink RX1 41 "SignRailModel" "thrown" "I") (by decide +kernel)) (fun _ h9 => h9) rfl (by decide +kernel) (rfl) (rfl) (Nat.le_of_ble_eq_true rfl) dX1_walk_25 (fun H locs hP hD hS => ?_)
      have hP : va_P D vwCl (wm cI cZ q (nI 2) sh sp ld nm nk tx mn ds ct co st at0 ha tk) H := hP
      have hD : va_D _ (wm cI cZ q (nI 2) sh sp ld nm nk tx mn ds ct co st at0 ha tk) := hD
      refine lv_aload_n hx hb dX1_walk_28 rfl (lv_at hl 0 rfl) ?_
      refine va_get (D := D) (ci := 1) (v := .int (nI 2)) (C := RX1) (T := TX1) (N := 15) hx hb hts hin hown hK hP 0 rfl rfl 0 (by decide) (hts (.fieldLink RX1 41 "SignRailModel" "thrown" "I") (by decide +kernel)) (fun _ h9 => h9) rfl dX1_walk_29 ?_
      refine n_if_le (tgt := 37) hx hb dX1_walk_32 (by decide) (by decide) (fun c_32 => absurd c_32 (by decide)) (fun _ => ?_)
      refine lv_iconst (v := nI 0) hx hb dX1_walk_35 (by decide) ?_
      exact k_wiret (nI 2, none)  hx hb hr hlocks dX1_walk_36 (k_no (cd2_2 c_5 c_17) (by decide)) rfl hP hS (Nat.le_of_ble_eq_true rfl) (Nat.le_of_ble_eq_true rfl)
    · obtain ⟨t', k, hk1, hk5, htk, rfl, rfl⟩ := txB_ex c_17
      have hp8 := p8_le hk5
      have ht' : t' < 32768 := by omega
      refine lv_iconst (v := nI 0) hx hb dX1_walk_20 (by decide) ?_
      refine lv_goto (tgt := 25) hx hb dX1_walk_21 (by decide) ?_
      refine va_put (D := D) (ci := 1) (v := .int (nI 0)) (ty := .int) (C := RX1) (T := TX1) (N := 15) hx hb hts hin tyX1 tyX1_ok nmX1 hown hK hP hD hS 0 rfl rfl 0 (by decide) (hts (.fieldLink RX1 41 "SignRailModel" "thrown" "I") (by decide +kernel)) (fun _ h9 => h9) rfl (by decide +kernel) (rfl) (rfl) (Nat.le_of_ble_eq_true rfl) dX1_walk_25 (fun H locs hP hD hS => ?_)
      have hP : va_P D vwCl (wm cI cZ q (nI 0) sh sp ld nm nk tx mn ds ct co st at0 ha tk) H := hP
      have hD : va_D _ (wm cI cZ q (nI 0) sh sp ld nm nk tx mn ds ct co st at0 ha tk) := hD
      refine lv_aload_n hx hb dX1_walk_28 rfl (lv_at hl 0 rfl) ?_
      refine va_get (D := D) (ci := 1) (v := .int (nI 0)) (C := RX1) (T := TX1) (N := 15) hx hb hts hin hown hK hP 0 rfl rfl 0 (by decide) (hts (.fieldLink RX1 41 "SignRailModel" "thrown" "I") (by decide +kernel)) (fun _ h9 => h9) rfl dX1_walk_29 ?_
      refine n_if_le (tgt := 37) hx hb dX1_walk_32 (by decide) (by decide) (fun _ => ?_) (fun c_32 => absurd c_32 (by decide))
      refine lv_aload_n hx hb dX1_walk_37 rfl (lv_at hl 0 rfl) ?_
      refine lv_iload_n hx hb dX1_walk_38 rfl (lv_at hl 1 rfl) ?_
      refine lv_iload_n hx hb dX1_walk_39 rfl (lv_at hl 2 rfl) ?_
      refine lv_iload_n hx hb dX1_walk_40 rfl (lv_at hl 3 rfl) ?_
      refine lv_bipush (v := nI 30) hx hb dX1_walk_41 (by decide) ?_
      refine k_callVW (wr := []) (As := [.int (nI p'), .int (nI t'), .int (nI k), .int (nI 30)]) (rest := []) ⟨hx, hb, hml, hown, hts⟩ (c_X1_follows l D cI cZ q (nI 0) sh sp ld nm nk tx mn ds ct co st at0 ha tk p' t' k 30 hp' ht' hk5 (by omega) K Ld hGk hLd NT NK hN (k_D_tt hD)) (cwV 4 hts gX1_walk_X1_follows rfl rfl rfl (by decide +kernel) ⟨Nat.le_of_ble_eq_true rfl, Nat.le_of_ble_eq_true rfl⟩) k_B_bl (k_B_of hP hK) (va_recv hK hP (ci := 1) (q0 := 0) rfl rfl) rfl hl.1 rfl (Nat.le_of_ble_eq_true rfl) dX1_walk_43 ⟨Nat.le_of_ble_eq_true rfl, Nat.le_of_ble_eq_true rfl⟩ hP hD hS [] [0, 1, 2, 3, 4, 5, 6, 7, 8, 9, 10] rfl rfl (fun _ => rfl) (fun u_43 H locs hu_43 hP hD hS hsz hkp => ?_)
      have hP : va_P D vwCl (wm cI cZ q (nI 0) sh sp ld nm nk tx mn ds ct co u_43.2.1 u_43.2.2.1 u_43.2.2.2 u_43.1) H := hP
      have hD : va_D _ (wm cI cZ q (nI 0) sh sp ld nm nk tx mn ds ct co u_43.2.1 u_43.2.2.1 u_43.2.2.2 u_43.1) := hD
      obtain ⟨hu1, bb, hu2, hu3⟩ := hu_43
      refine lv_aload_n hx hb dX1_walk_46 rfl (lv_at hl 0 rfl) ?_
      refine va_get (D := D) (ci := 1) (v := .int u_43.2.2.2) (C := RX1) (T := TX1) (N := 15) hx hb hts hin hown hK hP 0 rfl rfl 13 (by decide) (hts (.fieldLink RX1 109 "SignRailModel" "hasArrived" "Z") (by decide +kernel)) (fun _ h9 => h9) rfl dX1_walk_47 ?_
      refine lv_as (y := bI bb) (hu2) ?_
      refine b_if_eq (tgt := 60) hx hb dX1_walk_50 (by decide) (fun c_50 => ?_) (fun c_50 => ?_)
      · refine lv_iconst (v := (-1)) hx hb dX1_walk_60 (by decide) ?_
        refine lv_as (y := sa (toldR sh ct ds K k t') Ld (arrC NK NT k t') 31 0 p' tk0) (by rw [← hu3, c_50]; rfl) ?_
        exact k_wiret (nI 0, some ((p', t', k), u_43.1, u_43.2.1, u_43.2.2.1, u_43.2.2.2))  hx hb hr hlocks dX1_walk_61 (⟨(congrArg nI (cd2_0 c_5 c_17)).symm, (cd2_0 c_5 c_17), hp', rfl, hk1, hk5, htk, rfl, rfl⟩) rfl hP hS (Nat.le_of_ble_eq_true rfl) (Nat.le_of_ble_eq_true rfl)
      · refine lv_aload_n hx hb dX1_walk_53 rfl (lv_at hl 0 rfl) ?_
        refine va_get (D := D) (ci := 1) (v := .int u_43.2.1) (C := RX1) (T := TX1) (N := 15) hx hb hts hin hown hK hP 0 rfl rfl 11 (by decide) (hts (.fieldLink RX1 103 "SignRailModel" "steps" "I") (by decide +kernel)) (fun _ h9 => h9) rfl dX1_walk_54 ?_
        refine lv_goto (tgt := 61) hx hb dX1_walk_57 (by decide) ?_
        refine lv_as (y := sa (toldR sh ct ds K k t') Ld (arrC NK NT k t') 31 0 p' tk0) (by rw [← hu3, c_50]; rfl) ?_
        exact k_wiret (nI 0, some ((p', t', k), u_43.1, u_43.2.1, u_43.2.2.1, u_43.2.2.2))  hx hb hr hlocks dX1_walk_61 (⟨(congrArg nI (cd2_0 c_5 c_17)).symm, (cd2_0 c_5 c_17), hp', rfl, hk1, hk5, htk, rfl, rfl⟩) rfl hP hS (Nat.le_of_ble_eq_true rfl) (Nat.le_of_ble_eq_true rfl)
  · refine lv_iconst (v := nI 1) hx hb dX1_walk_8 (by decide) ?_
    refine lv_goto (tgt := 25) hx hb dX1_walk_9 (by decide) ?_
    refine va_put (D := D) (ci := 1) (v := .int (nI 1)) (ty := .int) (C := RX1) (T := TX1) (N := 15) hx hb hts hin tyX1 tyX1_ok nmX1 hown hK hP hD hS 0 rfl rfl 0 (by decide) (hts (.fieldLink RX1 41 "SignRailModel" "thrown" "I") (by decide +kernel)) (fun _ h9 => h9) rfl (by decide +kernel) (rfl) (rfl) (Nat.le_of_ble_eq_true rfl) dX1_walk_25 (fun H locs hP hD hS => ?_)
    have hP : va_P D vwCl (wm cI cZ q (nI 1) sh sp ld nm nk tx mn ds ct co st at0 ha tk) H := hP
    have hD : va_D _ (wm cI cZ q (nI 1) sh sp ld nm nk tx mn ds ct co st at0 ha tk) := hD
    refine lv_aload_n hx hb dX1_walk_28 rfl (lv_at hl 0 rfl) ?_
    refine va_get (D := D) (ci := 1) (v := .int (nI 1)) (C := RX1) (T := TX1) (N := 15) hx hb hts hin hown hK hP 0 rfl rfl 0 (by decide) (hts (.fieldLink RX1 41 "SignRailModel" "thrown" "I") (by decide +kernel)) (fun _ h9 => h9) rfl dX1_walk_29 ?_
    refine n_if_le (tgt := 37) hx hb dX1_walk_32 (by decide) (by decide) (fun c_32 => absurd c_32 (by decide)) (fun _ => ?_)
    refine lv_iconst (v := nI 0) hx hb dX1_walk_35 (by decide) ?_
    exact k_wiret (nI 1, none)  hx hb hr hlocks dX1_walk_36 (k_no (cd2_1 c_5) (by decide)) rfl hP hS (Nat.le_of_ble_eq_true rfl) (Nat.le_of_ble_eq_true rfl)
set_option maxHeartbeats 4000000 in
set_option maxRecDepth 100000 in
theorem c_X1_walkBySteps (l : Launch) (D : va_G) (cI cZ : ClassId) (q : Nat → Nat) (th : Int32) (sh sp ld nm nk tx mn ds ct : Nat → Int32) (co : Int64) (st at0 ha : Int32) (tk : Nat → Int32) (p0 t m0 : Int32) (K Ld : Nat → Nat) (hGk : ∀ w, w < 32 → K w ≤ 5 ∧ mn w = nI (K w)) (hLd : ∀ w, w < 32 → Ld w ≤ 8 ∧ ld w = ix (Ld w)) (NT NK : Nat → Nat) (hN : ∀ p, p < 8 → NT p < 32768 ∧ NK p ≤ 5 ∧ nm p = nI (NT p) ∧ nk p = nI (NK p)) (hDt : va_D (fun _ => True) (wm cI cZ q th sh sp ld nm nk tx mn ds ct co st at0 ha tk)) : Met l yX1_walkBySteps wsX1_walkBySteps ({ frames := 6, cells := 0, slots := 0, locals := 150 } : Room) (k_P [.ref (q 0), .int p0, .int t, .int m0] (k_B D (wm cI cZ q th sh sp ld nm nk tx mn ds ct co st at0 ha tk) [(cI, .int), (cZ, .boolean)])) (k_WQ D (wm cI cZ q th sh sp ld nm nk tx mn ds ct co st at0 ha tk) (fun u : Int32 × Option ((Nat × Nat × Nat) × (Nat → Int32) × Int32 × Int32 × Int32) => u.1 = nI (cd2 (inB p0 8) (txB t m0)) ∧ u.2.elim (cd2 (inB p0 8) (txB t m0) ≠ 0) (fun v => cd2 (inB p0 8) (txB t m0) = 0 ∧ v.1.1 < 8 ∧ p0 = nI v.1.1 ∧ 1 ≤ v.1.2.2 ∧ v.1.2.2 ≤ 5 ∧ v.1.2.1 < 8 ^ v.1.2.2 ∧ t = nI v.1.2.1 ∧ m0 = nI v.1.2.2)) (fun u => wm cI cZ q u.1 sh sp ld nm nk tx mn ds ct co (u.2.elim st (fun v => v.2.2.1)) (u.2.elim at0 (fun v => v.2.2.2.1)) (u.2.elim ha (fun v => v.2.2.2.2)) (u.2.elim tk (fun v => v.2.1))) (fun u => some (.int (u.2.elim (nI 0) (fun v => sa (toldR sh ct ds K v.1.2.2 v.1.2.1) Ld (arrC NK NT v.1.2.2 v.1.2.1) 31 0 v.1.1 tk0))))) 0 0 (k_A (wm cI cZ q th sh sp ld nm nk tx mn ds ct co st at0 ha tk)) := by
  refine k_head (cc := cX1_walkBySteps) (maxL := 4) (ret := (some .int)) [(0, .ref (q 0)), (1, .int p0), (2, .int t), (3, .int m0)] (by decide) rfl (Nat.le_of_ble_eq_true rfl) rfl ?_
  intro p e s m below meth c ls hx hb hr hml hown hts hlocks hname hB hl
  have hown : s.vm.findClass RX1 = some m.cls := hown
  obtain ⟨hP, hK⟩ := hB
  have hin : ∀ w ∈ wsX10, w ∈ wsX1_walkBySteps := fun w h => List.mem_cons_of_mem _ (List.mem_append_right _ h)
  have hD := k_A_D hDt
  have hS : va_S (k_A (wm cI cZ q th sh sp ld nm nk tx mn ds ct co st at0 ha tk)) s.heap s.heap [] := va_S.rf
  refine lv_aload_n hx hb dX1_walkBySteps_0 rfl (lv_at hl 0 rfl) ?_
  refine lv_iload_n hx hb dX1_walkBySteps_1 rfl (lv_at hl 1 rfl) ?_
  refine lv_iload_n hx hb dX1_walkBySteps_2 rfl (lv_at hl 2 rfl) ?_
  refine lv_iload_n hx hb dX1_walkBySteps_3 rfl (lv_at hl 3 rfl) ?_
  refine k_callVW (wr := []) (As := [.int p0, .int t, .int m0]) (rest := []) ⟨hx, hb, hml, hown, hts⟩ (c_X1_walk l D cI cZ q th sh sp ld nm nk tx mn ds ct co st at0 ha tk p0 t m0 K Ld hGk hLd NT NK hN (k_D_tt hD)) (cwV 3 hts gX1_walkBySteps_X1_walk rfl rfl rfl (by decide +kernel) ⟨Nat.le_of_ble_eq_true rfl, Nat.le_of_ble_eq_true rfl⟩) k_B_bl (k_B_of hP hK) (va_recv hK hP (ci := 1) (q0 := 0) rfl rfl) rfl hl.1 rfl (Nat.le_of_ble_eq_true rfl) dX1_walkBySteps_4 ⟨Nat.le_of_ble_eq_true rfl, Nat.le_of_ble_eq_true rfl⟩ hP hD hS [] [0, 1, 2, 3, 4, 5, 6, 7, 8, 9, 10] rfl rfl (fun _ => rfl) (fun u_4 H locs hu_4 hP hD hS hsz hkp => ?_)
  have hP : va_P D vwCl (wm cI cZ q u_4.1 sh sp ld nm nk tx mn ds ct co (u_4.2.elim st (fun v => v.2.2.1)) (u_4.2.elim at0 (fun v => v.2.2.2.1)) (u_4.2.elim ha (fun v => v.2.2.2.2)) (u_4.2.elim tk (fun v => v.2.1))) H := hP
  have hD : va_D _ (wm cI cZ q u_4.1 sh sp ld nm nk tx mn ds ct co (u_4.2.elim st (fun v => v.2.2.1)) (u_4.2.elim at0 (fun v => v.2.2.2.1)) (u_4.2.elim ha (fun v => v.2.2.2.2)) (u_4.2.elim tk (fun v => v.2.1))) := hD
  exact k_wiret (u_4)  hx hb hr hlocks dX1_walkBySteps_7 (hu_4) rfl hP hS (Nat.le_of_ble_eq_true rfl) (Nat.le_of_ble_eq_true rfl)
set_option maxHeartbeats 4000000 in
set_option maxRecDepth 100000 in
theorem c_X1_placeBehind (l : Launch) (D : va_G) (cI cZ : ClassId) (q : Nat → Nat) (th : Int32) (sh sp ld nm nk tx mn ds ct : Nat → Int32) (co : Int64) (st at0 ha : Int32) (tk : Nat → Int32) (p0 t m0 s0 : Int32) (K Ld : Nat → Nat) (hGk : ∀ w, w < 32 → K w ≤ 5 ∧ mn w = nI (K w)) (hLd : ∀ w, w < 32 → Ld w ≤ 8 ∧ ld w = ix (Ld w)) (NT NK : Nat → Nat) (hN : ∀ p, p < 8 → NT p < 32768 ∧ NK p ≤ 5 ∧ nm p = nI (NT p) ∧ nk p = nI (NK p)) (hDt : va_D (fun _ => True) (wm cI cZ q th sh sp ld nm nk tx mn ds ct co st at0 ha tk)) : Met l yX1_placeBehind wsX1_placeBehind ({ frames := 5, cells := 0, slots := 0, locals := 127 } : Room) (k_P [.ref (q 0), .int p0, .int t, .int m0, .int s0] (k_B D (wm cI cZ q th sh sp ld nm nk tx mn ds ct co st at0 ha tk) [(cI, .int), (cZ, .boolean)])) (k_WQ D (wm cI cZ q th sh sp ld nm nk tx mn ds ct co st at0 ha tk) (fun u : Int32 × Option ((Nat × Nat × Nat × Nat) × (Nat → Int32) × Int32 × Int32 × Int32) => u.1 = nI (cd2 (inB p0 8) (txB t m0 && inB s0 31)) ∧ u.2.elim (cd2 (inB p0 8) (txB t m0 && inB s0 31) ≠ 0) (fun v => cd2 (inB p0 8) (txB t m0 && inB s0 31) = 0 ∧ v.1.1 < 8 ∧ p0 = nI v.1.1 ∧ 1 ≤ v.1.2.2.1 ∧ v.1.2.2.1 ≤ 5 ∧ v.1.2.1 < 8 ^ v.1.2.2.1 ∧ t = nI v.1.2.1 ∧ m0 = nI v.1.2.2.1 ∧ v.1.2.2.2 < 31 ∧ s0 = nI v.1.2.2.2)) (fun u => wm cI cZ q u.1 sh sp ld nm nk tx mn ds ct co (u.2.elim st (fun v => v.2.2.1)) (u.2.elim at0 (fun v => v.2.2.2.1)) (u.2.elim ha (fun v => v.2.2.2.2)) (u.2.elim tk (fun v => v.2.1))) (fun u => some (.int (u.2.elim (nI 0) (fun v => nI (pl (toldR sh ct ds K v.1.2.2.1 v.1.2.1) Ld (arrC NK NT v.1.2.2.1 v.1.2.1) v.1.2.2.2 v.1.1 tk0)))))) 0 0 (k_A (wm cI cZ q th sh sp ld nm nk tx mn ds ct co st at0 ha tk)) := by
  refine k_head (cc := cX1_placeBehind) (maxL := 5) (ret := (some .int)) [(0, .ref (q 0)), (1, .int p0), (2, .int t), (3, .int m0), (4, .int s0)] (by decide) rfl (Nat.le_of_ble_eq_true rfl) rfl ?_
  intro p e s m below meth c ls hx hb hr hml hown hts hlocks hname hB hl
  have hown : s.vm.findClass RX1 = some m.cls := hown
  obtain ⟨hP, hK⟩ := hB
  have hin : ∀ w ∈ wsX10, w ∈ wsX1_placeBehind := fun w h => List.mem_cons_of_mem _ (List.mem_append_right _ h)
  have hD := k_A_D hDt
  have hS : va_S (k_A (wm cI cZ q th sh sp ld nm nk tx mn ds ct co st at0 ha tk)) s.heap s.heap [] := va_S.rf
  refine lv_aload_n hx hb dX1_placeBehind_0 rfl (lv_at hl 0 rfl) ?_
  refine lv_iload_n hx hb dX1_placeBehind_1 rfl (lv_at hl 1 rfl) ?_
  refine k_callSi (As := [.int p0]) (rest := [.ref (q 0)]) ⟨hx, hb, hml, hown, hts⟩ (c_X1_isPlace l p0) (va_cwS 1 hts gX1_placeBehind_X1_isPlace rfl rfl rfl (by decide +kernel) ⟨Nat.le_of_ble_eq_true rfl, Nat.le_of_ble_eq_true rfl⟩) k_bl_tt (fun _ _ _ => trivial) rfl hl.1 rfl (Nat.le_of_ble_eq_true rfl) dX1_placeBehind_2 ⟨Nat.zero_le _, Nat.zero_le _⟩ ?_
  refine b_if_ne (tgt := 12) hx hb dX1_placeBehind_5 (by decide) (fun c_5 => ?_) (fun c_5 => ?_)
  · obtain ⟨p', hp', rfl⟩ := inB_ex (by decide) (c_5)
    refine lv_iload_n hx hb dX1_placeBehind_12 rfl (lv_at hl 2 rfl) ?_
    refine lv_iload_n hx hb dX1_placeBehind_13 rfl (lv_at hl 3 rfl) ?_
    refine k_callSi (As := [.int t, .int m0]) (rest := [.ref (q 0)]) ⟨hx, hb, hml, hown, hts⟩ (c_X1_isText l t m0) (va_cwS 2 hts gX1_placeBehind_X1_isText rfl rfl rfl (by decide +kernel) ⟨Nat.le_of_ble_eq_true rfl, Nat.le_of_ble_eq_true rfl⟩) k_bl_tt (fun _ _ _ => trivial) rfl hl.1 rfl (Nat.le_of_ble_eq_true rfl) dX1_placeBehind_14 ⟨Nat.zero_le _, Nat.zero_le _⟩ ?_
    refine b_if_eq (tgt := 35) hx hb dX1_placeBehind_17 (by decide) (fun c_17 => ?_) (fun c_17 => ?_)
    · refine lv_iconst (v := nI 2) hx hb dX1_placeBehind_35 (by decide) ?_
      refine va_put (D := D) (ci := 1) (v := .int (nI 2)) (ty := .int) (C := RX1) (T := TX1) (N := 15) hx hb hts hin tyX1 tyX1_ok nmX1 hown hK hP hD hS 0 rfl rfl 0 (by decide) (hts (.fieldLink RX1 41 "SignRailModel" "thrown" "I") (by decide +kernel)) (fun _ h9 => h9) rfl (by decide +kernel) (rfl) (rfl) (Nat.le_of_ble_eq_true rfl) dX1_placeBehind_36 (fun H locs hP hD hS => ?_)
      have hP : va_P D vwCl (wm cI cZ q (nI 2) sh sp ld nm nk tx mn ds ct co st at0 ha tk) H := hP
      have hD : va_D _ (wm cI cZ q (nI 2) sh sp ld nm nk tx mn ds ct co st at0 ha tk) := hD
      refine lv_aload_n hx hb dX1_placeBehind_39 rfl (lv_at hl 0 rfl) ?_
      refine va_get (D := D) (ci := 1) (v := .int (nI 2)) (C := RX1) (T := TX1) (N := 15) hx hb hts hin hown hK hP 0 rfl rfl 0 (by decide) (hts (.fieldLink RX1 41 "SignRailModel" "thrown" "I") (by decide +kernel)) (fun _ h9 => h9) rfl dX1_placeBehind_40 ?_
      refine n_if_le (tgt := 48) hx hb dX1_placeBehind_43 (by decide) (by decide) (fun c_43 => absurd c_43 (by decide)) (fun _ => ?_)
      refine lv_iconst (v := nI 0) hx hb dX1_placeBehind_46 (by decide) ?_
      exact k_wiret (nI 2, none)  hx hb hr hlocks dX1_placeBehind_47 (k_no (cd2_2 c_5 (by first | exact and_l c_17 | exact and_r (by rw [← rg_in s0 (n := 30) (by decide)]; exact c_28))) (by decide)) rfl hP hS (Nat.le_of_ble_eq_true rfl) (Nat.le_of_ble_eq_true rfl)
    · obtain ⟨t', k, hk1, hk5, htk, rfl, rfl⟩ := txB_ex c_17
      have hp8 := p8_le hk5
      have ht' : t' < 32768 := by omega
      refine lv_iload hx hb dX1_placeBehind_20 (lv_at hl 4 rfl) ?_
      refine lv_iconst (v := nI 0) hx hb dX1_placeBehind_22 (by decide) ?_
      refine lv_bipush (v := nI 30) hx hb dX1_placeBehind_23 (by decide) ?_
      refine k_callSi (As := [.int s0, .int (nI 0), .int (nI 30)]) (rest := [.ref (q 0)]) ⟨hx, hb, hml, hown, hts⟩ (c_X1_in l s0 (nI 0) (nI 30)) (va_cwS 3 hts gX1_placeBehind_X1_in rfl rfl rfl (by decide +kernel) ⟨Nat.le_of_ble_eq_true rfl, Nat.le_of_ble_eq_true rfl⟩) k_bl_tt (fun _ _ _ => trivial) rfl hl.1 rfl (Nat.le_of_ble_eq_true rfl) dX1_placeBehind_25 ⟨Nat.zero_le _, Nat.zero_le _⟩ ?_
      refine b_if_eq (tgt := 35) hx hb dX1_placeBehind_28 (by decide) (fun c_28 => ?_) (fun c_28 => ?_)
      · refine lv_iconst (v := nI 2) hx hb dX1_placeBehind_35 (by decide) ?_
        refine va_put (D := D) (ci := 1) (v := .int (nI 2)) (ty := .int) (C := RX1) (T := TX1) (N := 15) hx hb hts hin tyX1 tyX1_ok nmX1 hown hK hP hD hS 0 rfl rfl 0 (by decide) (hts (.fieldLink RX1 41 "SignRailModel" "thrown" "I") (by decide +kernel)) (fun _ h9 => h9) rfl (by decide +kernel) (rfl) (rfl) (Nat.le_of_ble_eq_true rfl) dX1_placeBehind_36 (fun H locs hP hD hS => ?_)
        have hP : va_P D vwCl (wm cI cZ q (nI 2) sh sp ld nm nk tx mn ds ct co st at0 ha tk) H := hP
        have hD : va_D _ (wm cI cZ q (nI 2) sh sp ld nm nk tx mn ds ct co st at0 ha tk) := hD
        refine lv_aload_n hx hb dX1_placeBehind_39 rfl (lv_at hl 0 rfl) ?_
        refine va_get (D := D) (ci := 1) (v := .int (nI 2)) (C := RX1) (T := TX1) (N := 15) hx hb hts hin hown hK hP 0 rfl rfl 0 (by decide) (hts (.fieldLink RX1 41 "SignRailModel" "thrown" "I") (by decide +kernel)) (fun _ h9 => h9) rfl dX1_placeBehind_40 ?_
        refine n_if_le (tgt := 48) hx hb dX1_placeBehind_43 (by decide) (by decide) (fun c_43 => absurd c_43 (by decide)) (fun _ => ?_)
        refine lv_iconst (v := nI 0) hx hb dX1_placeBehind_46 (by decide) ?_
        exact k_wiret (nI 2, none)  hx hb hr hlocks dX1_placeBehind_47 (k_no (cd2_2 c_5 (by first | exact and_l c_17 | exact and_r (by rw [← rg_in s0 (n := 30) (by decide)]; exact c_28))) (by decide)) rfl hP hS (Nat.le_of_ble_eq_true rfl) (Nat.le_of_ble_eq_true rfl)
      · have hs31 : inB s0 31 = true := by rw [← rg_in s0 (n := 30) (by decide)]; exact c_28
        obtain ⟨s', hs', rfl⟩ := inB_ex (by decide) (hs31)
        refine lv_iconst (v := nI 0) hx hb dX1_placeBehind_31 (by decide) ?_
        refine lv_goto (tgt := 36) hx hb dX1_placeBehind_32 (by decide) ?_
        refine va_put (D := D) (ci := 1) (v := .int (nI 0)) (ty := .int) (C := RX1) (T := TX1) (N := 15) hx hb hts hin tyX1 tyX1_ok nmX1 hown hK hP hD hS 0 rfl rfl 0 (by decide) (hts (.fieldLink RX1 41 "SignRailModel" "thrown" "I") (by decide +kernel)) (fun _ h9 => h9) rfl (by decide +kernel) (rfl) (rfl) (Nat.le_of_ble_eq_true rfl) dX1_placeBehind_36 (fun H locs hP hD hS => ?_)
        have hP : va_P D vwCl (wm cI cZ q (nI 0) sh sp ld nm nk tx mn ds ct co st at0 ha tk) H := hP
        have hD : va_D _ (wm cI cZ q (nI 0) sh sp ld nm nk tx mn ds ct co st at0 ha tk) := hD
        refine lv_aload_n hx hb dX1_placeBehind_39 rfl (lv_at hl 0 rfl) ?_
        refine va_get (D := D) (ci := 1) (v := .int (nI 0)) (C := RX1) (T := TX1) (N := 15) hx hb hts hin hown hK hP 0 rfl rfl 0 (by decide) (hts (.fieldLink RX1 41 "SignRailModel" "thrown" "I") (by decide +kernel)) (fun _ h9 => h9) rfl dX1_placeBehind_40 ?_
        refine n_if_le (tgt := 48) hx hb dX1_placeBehind_43 (by decide) (by decide) (fun _ => ?_) (fun c_43 => absurd c_43 (by decide))
        refine lv_aload_n hx hb dX1_placeBehind_48 rfl (lv_at hl 0 rfl) ?_
        refine lv_iload_n hx hb dX1_placeBehind_49 rfl (lv_at hl 1 rfl) ?_
        refine lv_iload_n hx hb dX1_placeBehind_50 rfl (lv_at hl 2 rfl) ?_
        refine lv_iload_n hx hb dX1_placeBehind_51 rfl (lv_at hl 3 rfl) ?_
        refine lv_iload hx hb dX1_placeBehind_52 (lv_at hl 4 rfl) ?_
        refine k_callVW (wr := []) (As := [.int (nI p'), .int (nI t'), .int (nI k), .int (nI s')]) (rest := []) ⟨hx, hb, hml, hown, hts⟩ (c_X1_follows l D cI cZ q (nI 0) sh sp ld nm nk tx mn ds ct co st at0 ha tk p' t' k s' hp' ht' hk5 (by omega) K Ld hGk hLd NT NK hN (k_D_tt hD)) (cwV 4 hts gX1_placeBehind_X1_follows rfl rfl rfl (by decide +kernel) ⟨Nat.le_of_ble_eq_true rfl, Nat.le_of_ble_eq_true rfl⟩) k_B_bl (k_B_of hP hK) (va_recv hK hP (ci := 1) (q0 := 0) rfl rfl) rfl hl.1 rfl (Nat.le_of_ble_eq_true rfl) dX1_placeBehind_54 ⟨Nat.le_of_ble_eq_true rfl, Nat.le_of_ble_eq_true rfl⟩ hP hD hS [] [0, 1, 2, 3, 4, 5, 6, 7, 8, 9, 10] rfl rfl (fun _ => rfl) (fun u_54 H locs hu_54 hP hD hS hsz hkp => ?_)
        have hP : va_P D vwCl (wm cI cZ q (nI 0) sh sp ld nm nk tx mn ds ct co u_54.2.1 u_54.2.2.1 u_54.2.2.2 u_54.1) H := hP
        have hD : va_D _ (wm cI cZ q (nI 0) sh sp ld nm nk tx mn ds ct co u_54.2.1 u_54.2.2.1 u_54.2.2.2 u_54.1) := hD
        obtain ⟨hu1, bb, hu2, hu3⟩ := hu_54
        refine lv_aload_n hx hb dX1_placeBehind_57 rfl (lv_at hl 0 rfl) ?_
        refine va_get (D := D) (ci := 1) (v := .int u_54.2.2.1) (C := RX1) (T := TX1) (N := 15) hx hb hts hin hown hK hP 0 rfl rfl 12 (by decide) (hts (.fieldLink RX1 106 "SignRailModel" "at" "I") (by decide +kernel)) (fun _ h9 => h9) rfl dX1_placeBehind_58 ?_
        refine lv_as (y := nI (pl (toldR sh ct ds K k t') Ld (arrC NK NT k t') s' p' tk0)) (hu1) ?_
        exact k_wiret (nI 0, some ((p', t', k, s'), u_54.1, u_54.2.1, u_54.2.2.1, u_54.2.2.2))  hx hb hr hlocks dX1_placeBehind_61 (⟨(congrArg nI (cd2_0 c_5 (and_t c_17 hs31))).symm, (cd2_0 c_5 (and_t c_17 hs31)), hp', rfl, hk1, hk5, htk, rfl, rfl, hs', rfl⟩) rfl hP hS (Nat.le_of_ble_eq_true rfl) (Nat.le_of_ble_eq_true rfl)
  · refine lv_iconst (v := nI 1) hx hb dX1_placeBehind_8 (by decide) ?_
    refine lv_goto (tgt := 36) hx hb dX1_placeBehind_9 (by decide) ?_
    refine va_put (D := D) (ci := 1) (v := .int (nI 1)) (ty := .int) (C := RX1) (T := TX1) (N := 15) hx hb hts hin tyX1 tyX1_ok nmX1 hown hK hP hD hS 0 rfl rfl 0 (by decide) (hts (.fieldLink RX1 41 "SignRailModel" "thrown" "I") (by decide +kernel)) (fun _ h9 => h9) rfl (by decide +kernel) (rfl) (rfl) (Nat.le_of_ble_eq_true rfl) dX1_placeBehind_36 (fun H locs hP hD hS => ?_)
    have hP : va_P D vwCl (wm cI cZ q (nI 1) sh sp ld nm nk tx mn ds ct co st at0 ha tk) H := hP
    have hD : va_D _ (wm cI cZ q (nI 1) sh sp ld nm nk tx mn ds ct co st at0 ha tk) := hD
    refine lv_aload_n hx hb dX1_placeBehind_39 rfl (lv_at hl 0 rfl) ?_
    refine va_get (D := D) (ci := 1) (v := .int (nI 1)) (C := RX1) (T := TX1) (N := 15) hx hb hts hin hown hK hP 0 rfl rfl 0 (by decide) (hts (.fieldLink RX1 41 "SignRailModel" "thrown" "I") (by decide +kernel)) (fun _ h9 => h9) rfl dX1_placeBehind_40 ?_
    refine n_if_le (tgt := 48) hx hb dX1_placeBehind_43 (by decide) (by decide) (fun c_43 => absurd c_43 (by decide)) (fun _ => ?_)
    refine lv_iconst (v := nI 0) hx hb dX1_placeBehind_46 (by decide) ?_
    exact k_wiret (nI 1, none)  hx hb hr hlocks dX1_placeBehind_47 (k_no (cd2_1 c_5) (by decide)) rfl hP hS (Nat.le_of_ble_eq_true rfl) (Nat.le_of_ble_eq_true rfl)
