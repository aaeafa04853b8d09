set_option maxHeartbeats 4000000 in
set_option maxRecDepth 100000 in
theorem c_X0_pairOf (l : Launch) (a b : Nat) : k_M l yX0_pairOf wsX0_pairOf ({ frames := 0, cells := 0, slots := 0, locals := 0 } : Room) [.int (nI a), .int (nI b)] k_tt (some (.int (nI (a * 8 + b)))) := by
  refine k_head (cc := cX0_pairOf) (maxL := 2) (ret := some .int) [(0, .int (nI a)), (1, .int (nI b))] (by decide) rfl (Nat.le_of_ble_eq_true rfl) rfl ?_
  intro p e s m below meth c ls hx hb hr hml hown hts hlocks hname hB hl
  have hown : s.vm.findClass RX0 = some m.cls := hown
  refine lv_iload_n hx hb dX0_pairOf_0 rfl (lv_at hl 0 rfl) ?_
  refine lv_bipush (v := nI 8) hx hb dX0_pairOf_1 (by decide) ?_
  refine lv_imul hx hb dX0_pairOf_3 ?_
  refine lv_as (pk_mul _ _) ?_
  refine lv_iload_n hx hb dX0_pairOf_4 rfl (lv_at hl 1 rfl) ?_
  refine lv_iadd hx hb dX0_pairOf_5 ?_
  refine lv_as (nI_add _ _) ?_
  exact k_iret hx hb hr hlocks dX0_pairOf_6 (rfl)
set_option maxHeartbeats 4000000 in
set_option maxRecDepth 100000 in
theorem c_X0_wayOf (l : Launch) (a b : Nat) : k_M l yX0_wayOf wsX0_wayOf ({ frames := 0, cells := 0, slots := 0, locals := 0 } : Room) [.int (nI a), .int (nI b)] k_tt (some (.int (nI (a * 4 + b)))) := by
  refine k_head (cc := cX0_wayOf) (maxL := 2) (ret := some .int) [(0, .int (nI a)), (1, .int (nI b))] (by decide) rfl (Nat.le_of_ble_eq_true rfl) rfl ?_
  intro p e s m below meth c ls hx hb hr hml hown hts hlocks hname hB hl
  have hown : s.vm.findClass RX0 = some m.cls := hown
  refine lv_iload_n hx hb dX0_wayOf_0 rfl (lv_at hl 0 rfl) ?_
  refine lv_iconst (v := nI 4) hx hb dX0_wayOf_1 (by decide) ?_
  refine lv_imul hx hb dX0_wayOf_2 ?_
  refine lv_as (pk_mul _ _) ?_
  refine lv_iload_n hx hb dX0_wayOf_3 rfl (lv_at hl 1 rfl) ?_
  refine lv_iadd hx hb dX0_wayOf_4 ?_
  refine lv_as (nI_add _ _) ?_
  exact k_iret hx hb hr hlocks dX0_wayOf_5 (rfl)
set_option maxHeartbeats 4000000 in
set_option maxRecDepth 100000 in
theorem c_X0_pack (l : Launch) (t k : Nat) (ht : t < 32768) (hk : k ≤ 5) : k_M l yX0_pack wsX0_pack ({ frames := 0, cells := 0, slots := 0, locals := 0 } : Room) [.int (nI t), .int (nI k)] k_tt (some (.int (nI (32768 * k + t)))) := by
  refine k_head (cc := cX0_pack) (maxL := 2) (ret := some .int) [(0, .int (nI t)), (1, .int (nI k))] (by decide) rfl (Nat.le_of_ble_eq_true rfl) rfl ?_
  intro p e s m below meth c ls hx hb hr hml hown hts hlocks hname hB hl
  have hown : s.vm.findClass RX0 = some m.cls := hown
  refine lv_iload_n hx hb dX0_pack_0 rfl (lv_at hl 1 rfl) ?_
  refine lv_bipush (v := nI 15) hx hb dX0_pack_1 (by decide) ?_
  refine lv_ishl hx hb dX0_pack_3 ?_
  refine lv_iload_n hx hb dX0_pack_4 rfl (lv_at hl 0 rfl) ?_
  refine lv_ior hx hb dX0_pack_5 ?_
  exact k_iret hx hb hr hlocks dX0_pack_6 (packN ht hk)
set_option maxHeartbeats 4000000 in
set_option maxRecDepth 100000 in
theorem c_X0_manyOf (l : Launch) (t k : Nat) (ht : t < 32768) (hk : k ≤ 5) : k_M l yX0_manyOf wsX0_manyOf ({ frames := 0, cells := 0, slots := 0, locals := 0 } : Room) [.int (nI (32768 * k + t))] k_tt (some (.int (nI k))) := by
  refine k_head (cc := cX0_manyOf) (maxL := 1) (ret := some .int) [(0, .int (nI (32768 * k + t)))] (by decide) rfl (Nat.le_of_ble_eq_true rfl) rfl ?_
  intro p e s m below meth c ls hx hb hr hml hown hts hlocks hname hB hl
  have hown : s.vm.findClass RX0 = some m.cls := hown
  refine lv_iload_n hx hb dX0_manyOf_0 rfl (lv_at hl 0 rfl) ?_
  refine lv_bipush (v := nI 15) hx hb dX0_manyOf_1 (by decide) ?_
  refine lv_ishr hx hb dX0_manyOf_3 ?_
  exact k_iret hx hb hr hlocks dX0_manyOf_4 (manyN ht hk)
set_option maxHeartbeats 4000000 in
set_option maxRecDepth 100000 in
theorem c_X0_numberOf (l : Launch) (t k : Nat) (ht : t < 32768) : k_M l yX0_numberOf wsX0_numberOf ({ frames := 0, cells := 0, slots := 0, locals := 0 } : Room) [.int (nI (32768 * k + t))] k_tt (some (.int (nI t))) := by
  refine k_head (cc := cX0_numberOf) (maxL := 1) (ret := some .int) [(0, .int (nI (32768 * k + t)))] (by decide) rfl (Nat.le_of_ble_eq_true rfl) rfl ?_
  intro p e s m below meth c ls hx hb hr hml hown hts hlocks hname hB hl
  have hown : s.vm.findClass RX0 = some m.cls := hown
  refine lv_iload_n hx hb dX0_numberOf_0 rfl (lv_at hl 0 rfl) ?_
  refine lv_sipush (v := nI 32767) hx hb dX0_numberOf_1 (by decide) ?_
  refine lv_iand hx hb dX0_numberOf_4 ?_
  exact k_iret hx hb hr hlocks dX0_numberOf_5 (numN ht)
set_option maxHeartbeats 4000000 in
set_option maxRecDepth 100000 in
theorem c_X0_glyphAt (l : Launch) (t k j : Nat) (ht : t < 32768) (hk : k ≤ 5) (hj : j < 5) : k_M l yX0_glyphAt wsX0_glyphAt ({ frames := 0, cells := 0, slots := 0, locals := 0 } : Room) [.int (nI (32768 * k + t)), .int (nI j)] k_tt (some (.int (nI (dg t j)))) := by
  refine k_head (cc := cX0_glyphAt) (maxL := 2) (ret := some .int) [(0, .int (nI (32768 * k + t))), (1, .int (nI j))] (by decide) rfl (Nat.le_of_ble_eq_true rfl) rfl ?_
  intro p e s m below meth c ls hx hb hr hml hown hts hlocks hname hB hl
  have hown : s.vm.findClass RX0 = some m.cls := hown
  refine lv_iload_n hx hb dX0_glyphAt_0 rfl (lv_at hl 0 rfl) ?_
  refine lv_iconst (v := nI 3) hx hb dX0_glyphAt_1 (by decide) ?_
  refine lv_iload_n hx hb dX0_glyphAt_2 rfl (lv_at hl 1 rfl) ?_
  refine lv_imul hx hb dX0_glyphAt_3 ?_
  refine lv_as (pk_mul _ _) ?_
  refine lv_ishr hx hb dX0_glyphAt_4 ?_
  refine lv_bipush (v := nI 7) hx hb dX0_glyphAt_5 (by decide) ?_
  refine lv_iand hx hb dX0_glyphAt_7 ?_
  exact k_iret hx hb hr hlocks dX0_glyphAt_8 ((glyN (by omega) hj).trans (by rw [dig5 hj]))
set_option maxHeartbeats 4000000 in
set_option maxRecDepth 100000 in
theorem c_X0_isCell (l : Launch) (x y : Int32) : k_M l yX0_isCell wsX0_isCell ({ frames := 0, cells := 0, slots := 0, locals := 0 } : Room) [.int x, .int y] k_tt (some (.int (bI (inB x 5 && inB y 5)))) := by
  refine k_head (cc := cX0_isCell) (maxL := 2) (ret := some .boolean) [(0, .int x), (1, .int y)] (by decide) rfl (Nat.le_of_ble_eq_true rfl) rfl ?_
  intro p e s m below meth c ls hx hb hr hml hown hts hlocks hname hB hl
  have hown : s.vm.findClass RX0 = some m.cls := hown
  refine lv_iload_n hx hb dX0_isCell_0 rfl (lv_at hl 0 rfl) ?_
  refine lv_if_lt (tgt := 22) hx hb dX0_isCell_1 (by decide) (fun c_1 => ?_) (fun c_1 => ?_)
  · refine lv_iconst (v := nI 0) hx hb dX0_isCell_22 (by decide) ?_
    exact k_zret hx hb hr hlocks dX0_isCell_23 (by first | (rw [inB_lt c_1]; rfl) | (rw [inB_ge c_6]; rfl) | (rw [inB_lt c_10, Bool.and_false]; rfl) | (rw [inB_ge c_15, Bool.and_false]; rfl))
  · refine lv_iload_n hx hb dX0_isCell_4 rfl (lv_at hl 0 rfl) ?_
    refine lv_iconst (v := nI 5) hx hb dX0_isCell_5 (by decide) ?_
    refine lv_icmp_ge (tgt := 22) hx hb dX0_isCell_6 (by decide) (fun c_6 => ?_) (fun c_6 => ?_)
    · refine lv_iconst (v := nI 0) hx hb dX0_isCell_22 (by decide) ?_
      exact k_zret hx hb hr hlocks dX0_isCell_23 (by first | (rw [inB_lt c_1]; rfl) | (rw [inB_ge c_6]; rfl) | (rw [inB_lt c_10, Bool.and_false]; rfl) | (rw [inB_ge c_15, Bool.and_false]; rfl))
    · refine lv_iload_n hx hb dX0_isCell_9 rfl (lv_at hl 1 rfl) ?_
      refine lv_if_lt (tgt := 22) hx hb dX0_isCell_10 (by decide) (fun c_10 => ?_) (fun c_10 => ?_)
      · refine lv_iconst (v := nI 0) hx hb dX0_isCell_22 (by decide) ?_
        exact k_zret hx hb hr hlocks dX0_isCell_23 (by first | (rw [inB_lt c_1]; rfl) | (rw [inB_ge c_6]; rfl) | (rw [inB_lt c_10, Bool.and_false]; rfl) | (rw [inB_ge c_15, Bool.and_false]; rfl))
      · refine lv_iload_n hx hb dX0_isCell_13 rfl (lv_at hl 1 rfl) ?_
        refine lv_iconst (v := nI 5) hx hb dX0_isCell_14 (by decide) ?_
        refine lv_icmp_ge (tgt := 22) hx hb dX0_isCell_15 (by decide) (fun c_15 => ?_) (fun c_15 => ?_)
        · refine lv_iconst (v := nI 0) hx hb dX0_isCell_22 (by decide) ?_
          exact k_zret hx hb hr hlocks dX0_isCell_23 (by first | (rw [inB_lt c_1]; rfl) | (rw [inB_ge c_6]; rfl) | (rw [inB_lt c_10, Bool.and_false]; rfl) | (rw [inB_ge c_15, Bool.and_false]; rfl))
        · refine lv_iconst (v := nI 1) hx hb dX0_isCell_18 (by decide) ?_
          refine lv_goto (tgt := 23) hx hb dX0_isCell_19 (by decide) ?_
          exact k_zret hx hb hr hlocks dX0_isCell_23 (by rw [inB_of c_1 c_6, inB_of c_10 c_15]; rfl)
set_option maxHeartbeats 4000000 in
set_option maxRecDepth 100000 in
theorem c_X0_direction (l : Launch) (a b : Nat) (ha : a < 5) (hb5 : b < 5) : k_M l yX0_direction wsX0_direction ({ frames := 0, cells := 0, slots := 0, locals := 0 } : Room) [.int (nI a), .int (nI b)] k_tt (some (.int (dr a b))) := by
  refine k_head (cc := cX0_direction) (maxL := 2) (ret := some .int) [(0, .int (nI a)), (1, .int (nI b))] (by decide) rfl (Nat.le_of_ble_eq_true rfl) rfl ?_
  intro p e s m below meth c ls hx hb hr hml hown hts hlocks hname hB hl
  have hown : s.vm.findClass RX0 = some m.cls := hown
  refine lv_iload_n hx hb dX0_direction_0 rfl (lv_at hl 1 rfl) ?_
  refine lv_iload_n hx hb dX0_direction_1 rfl (lv_at hl 0 rfl) ?_
  refine n_icmp_le (tgt := 9) hx hb dX0_direction_2 (by decide) (by omega) (by omega) (fun c_2 => ?_) (fun c_2 => ?_)
  · refine lv_iload_n hx hb dX0_direction_9 rfl (lv_at hl 1 rfl) ?_
    refine lv_iload_n hx hb dX0_direction_10 rfl (lv_at hl 0 rfl) ?_
    refine n_icmp_ge (tgt := 18) hx hb dX0_direction_11 (by decide) (by omega) (by omega) (fun c_11 => ?_) (fun c_11 => ?_)
    · refine lv_iconst (v := nI 0) hx hb dX0_direction_18 (by decide) ?_
      exact k_iret hx hb hr hlocks dX0_direction_19 (by rw [dr, if_neg (Nat.not_lt.mpr c_2), if_neg (Nat.not_lt.mpr c_11)])
    · refine lv_iconst (v := (-1)) hx hb dX0_direction_14 (by decide) ?_
      refine lv_goto (tgt := 19) hx hb dX0_direction_15 (by decide) ?_
      exact k_iret hx hb hr hlocks dX0_direction_19 (by rw [dr, if_neg (Nat.not_lt.mpr c_2), if_pos c_11])
  · refine lv_iconst (v := nI 1) hx hb dX0_direction_5 (by decide) ?_
    refine lv_goto (tgt := 19) hx hb dX0_direction_6 (by decide) ?_
    exact k_iret hx hb hr hlocks dX0_direction_19 (by rw [dr, if_pos c_2])
