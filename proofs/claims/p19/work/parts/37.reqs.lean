set_option maxHeartbeats 4000000 in
set_option maxRecDepth 100000 in
theorem c_X0_requireGlyph (l : Launch) (g : Nat) (hg : g < 8) : k_M l yX0_requireGlyph wsX0_requireGlyph ({ frames := 0, cells := 0, slots := 0, locals := 0 } : Room) [.int (nI g)] k_tt none := by
  refine k_head (cc := cX0_requireGlyph) (maxL := 1) (ret := none) [(0, .int (nI g))] (by decide) rfl (Nat.le_of_ble_eq_true rfl) rfl ?_
  intro p e s m below meth c ls hx hb hr hml hown hts hlocks hname hB hl
  have hown : s.vm.findClass RX0 = some m.cls := hown
  refine lv_iload_n hx hb dX0_requireGlyph_0 rfl (lv_at hl 0 rfl) ?_
  refine n_if_lt (tgt := 10) hx hb dX0_requireGlyph_1 (by decide) (by omega) ?_
  refine lv_iload_n hx hb dX0_requireGlyph_4 rfl (lv_at hl 0 rfl) ?_
  refine lv_bipush (v := nI 8) hx hb dX0_requireGlyph_5 (by decide) ?_
  refine n_icmp_lt (tgt := 20) hx hb dX0_requireGlyph_7 (by decide) (by omega) (by omega) (fun c_7 => ?_) (fun c_7 => ?_)
  · exact k_vret hx hb hr hlocks dX0_requireGlyph_20
  · exact absurd hg (by omega)
set_option maxHeartbeats 4000000 in
set_option maxRecDepth 100000 in
theorem c_X0_requirePlace (l : Launch) (g : Nat) (hg : g < 8) : k_M l yX0_requirePlace wsX0_requirePlace ({ frames := 0, cells := 0, slots := 0, locals := 0 } : Room) [.int (nI g)] k_tt none := by
  refine k_head (cc := cX0_requirePlace) (maxL := 1) (ret := none) [(0, .int (nI g))] (by decide) rfl (Nat.le_of_ble_eq_true rfl) rfl ?_
  intro p e s m below meth c ls hx hb hr hml hown hts hlocks hname hB hl
  have hown : s.vm.findClass RX0 = some m.cls := hown
  refine lv_iload_n hx hb dX0_requirePlace_0 rfl (lv_at hl 0 rfl) ?_
  refine n_if_lt (tgt := 10) hx hb dX0_requirePlace_1 (by decide) (by omega) ?_
  refine lv_iload_n hx hb dX0_requirePlace_4 rfl (lv_at hl 0 rfl) ?_
  refine lv_bipush (v := nI 8) hx hb dX0_requirePlace_5 (by decide) ?_
  refine n_icmp_lt (tgt := 20) hx hb dX0_requirePlace_7 (by decide) (by omega) (by omega) (fun c_7 => ?_) (fun c_7 => ?_)
  · exact k_vret hx hb hr hlocks dX0_requirePlace_20
  · exact absurd hg (by omega)
set_option maxHeartbeats 4000000 in
set_option maxRecDepth 100000 in
theorem c_X0_requireExit (l : Launch) (g x : Nat) (hg : g < 8) (hx4 : x < 4) : k_M l yX0_requireExit wsX0_requireExit ({ frames := 1, cells := 0, slots := 0, locals := 20 } : Room) [.int (nI g), .int (nI x)] k_tt none := by
  refine k_head (cc := cX0_requireExit) (maxL := 2) (ret := none) [(0, .int (nI g)), (1, .int (nI x))] (by decide) rfl (Nat.le_of_ble_eq_true rfl) rfl ?_
  intro p e s m below meth c ls hx hb hr hml hown hts hlocks hname hB hl
  have hown : s.vm.findClass RX0 = some m.cls := hown
  refine lv_iload_n hx hb dX0_requireExit_0 rfl (lv_at hl 0 rfl) ?_
  refine k_callS0 (As := [.int (nI g)]) (rest := []) ⟨hx, hb, hml, hown, hts⟩ (c_X0_requirePlace l g (by omega)) (va_cwS 1 hts gX0_requireExit_X0_requirePlace rfl rfl rfl (by decide +kernel) ⟨Nat.le_of_ble_eq_true rfl, Nat.le_of_ble_eq_true rfl⟩) k_bl_tt (fun _ _ _ => trivial) rfl hl.1 rfl (Nat.le_of_ble_eq_true rfl) dX0_requireExit_1 ⟨Nat.zero_le _, Nat.zero_le _⟩ ?_
  refine lv_iload_n hx hb dX0_requireExit_4 rfl (lv_at hl 1 rfl) ?_
  refine n_if_lt (tgt := 13) hx hb dX0_requireExit_5 (by decide) (by omega) ?_
  refine lv_iload_n hx hb dX0_requireExit_8 rfl (lv_at hl 1 rfl) ?_
  refine lv_iconst (v := nI 4) hx hb dX0_requireExit_9 (by decide) ?_
  refine n_icmp_lt (tgt := 23) hx hb dX0_requireExit_10 (by decide) (by omega) (by omega) (fun c_10 => ?_) (fun c_10 => ?_)
  · exact k_vret hx hb hr hlocks dX0_requireExit_23
  · exact absurd hx4 (by omega)
set_option maxHeartbeats 4000000 in
set_option maxRecDepth 100000 in
theorem c_X0_requireText (l : Launch) (t k : Nat) (hk1 : 1 ≤ k) (hk5 : k ≤ 5) (htk : t < 8 ^ k) : k_M l yX0_requireText wsX0_requireText ({ frames := 0, cells := 0, slots := 0, locals := 0 } : Room) [.int (nI t), .int (nI k)] k_tt none := by
  refine k_head (cc := cX0_requireText) (maxL := 2) (ret := none) [(0, .int (nI t)), (1, .int (nI k))] (by decide) rfl (Nat.le_of_ble_eq_true rfl) rfl ?_
  intro p e s m below meth c ls hx hb hr hml hown hts hlocks hname hB hl
  have hown : s.vm.findClass RX0 = some m.cls := hown
  have hp8 := p8_le hk5
  refine lv_iload_n hx hb dX0_requireText_0 rfl (lv_at hl 1 rfl) ?_
  refine lv_iconst (v := nI 1) hx hb dX0_requireText_1 (by decide) ?_
  refine n_icmp_lt (tgt := 10) hx hb dX0_requireText_2 (by decide) (by omega) (by omega) (fun c_2 => ?_) (fun c_2 => ?_)
  · exact absurd hk1 (by omega)
  · refine lv_iload_n hx hb dX0_requireText_5 rfl (lv_at hl 1 rfl) ?_
    refine lv_iconst (v := nI 5) hx hb dX0_requireText_6 (by decide) ?_
    refine n_icmp_le (tgt := 20) hx hb dX0_requireText_7 (by decide) (by omega) (by omega) (fun c_7 => ?_) (fun c_7 => ?_)
    · refine lv_iload_n hx hb dX0_requireText_20 rfl (lv_at hl 0 rfl) ?_
      refine n_if_lt (tgt := 33) hx hb dX0_requireText_21 (by decide) (by omega) ?_
      refine lv_iload_n hx hb dX0_requireText_24 rfl (lv_at hl 0 rfl) ?_
      refine lv_iconst (v := nI 1) hx hb dX0_requireText_25 (by decide) ?_
      refine lv_iconst (v := nI 3) hx hb dX0_requireText_26 (by decide) ?_
      refine lv_iload_n hx hb dX0_requireText_27 rfl (lv_at hl 1 rfl) ?_
      refine lv_imul hx hb dX0_requireText_28 ?_
      refine lv_as (y := nI (3 * k)) (pk_mul _ _) ?_
      refine lv_ishl hx hb dX0_requireText_29 ?_
      refine lv_as (y := nI (8 ^ k)) (shl8 k (by omega)) ?_
      refine n_icmp_lt (tgt := 43) hx hb dX0_requireText_30 (by decide) (by omega) (by omega) (fun c_30 => ?_) (fun c_30 => ?_)
      · exact k_vret hx hb hr hlocks dX0_requireText_43
      · exact absurd htk (by omega)
    · exact absurd hk5 (by omega)
set_option maxHeartbeats 4000000 in
set_option maxRecDepth 100000 in
theorem c_X0_requireLine (l : Launch) (a b c0 d0 : Nat) (ha : a < 5) (hb5 : b < 5) (hc : c0 < 5) (hd : d0 < 5) (hln : lnK a b c0 d0 = true) : k_M l yX0_requireLine wsX0_requireLine ({ frames := 1, cells := 0, slots := 0, locals := 23 } : Room) [.int (nI a), .int (nI b), .int (nI c0), .int (nI d0)] k_tt none := by
  refine k_head (cc := cX0_requireLine) (maxL := 6) (ret := none) [(0, .int (nI a)), (1, .int (nI b)), (2, .int (nI c0)), (3, .int (nI d0))] (by decide) rfl (Nat.le_of_ble_eq_true rfl) rfl ?_
  intro p e s m below meth c ls hx hb hr hml hown hts hlocks hname hB hl
  have hown : s.vm.findClass RX0 = some m.cls := hown
  have hda := dist_lt a ha c0 hc
  have hdb := dist_lt b hb5 d0 hd
  have hor : dist a c0 = 0 ∨ dist b d0 = 0 ∨ dist a c0 = dist b d0 := of_decide_eq_true hln
  refine lv_iload_n hx hb dX0_requireLine_0 rfl (lv_at hl 0 rfl) ?_
  refine lv_iload_n hx hb dX0_requireLine_1 rfl (lv_at hl 1 rfl) ?_
  refine k_callSi (As := [.int (nI a), .int (nI b)]) (rest := []) ⟨hx, hb, hml, hown, hts⟩ (c_X0_isCell l (nI a) (nI b)) (va_cwS 2 hts gX0_requireLine_X0_isCell rfl rfl rfl (by decide +kernel) ⟨Nat.le_of_ble_eq_true rfl, Nat.le_of_ble_eq_true rfl⟩) k_bl_tt (fun _ _ _ => trivial) rfl hl.1 rfl (Nat.le_of_ble_eq_true rfl) dX0_requireLine_2 ⟨Nat.zero_le _, Nat.zero_le _⟩ ?_
  refine lv_as (y := nI 1) (by rw [inB_nI (by omega) (by decide), inB_nI (by omega) (by decide)]; rfl) ?_
  refine n_if_eq (tgt := 16) hx hb dX0_requireLine_5 (by decide) (by decide) (fun c_5 => absurd c_5 (by decide)) (fun _ => ?_)
  refine lv_iload_n hx hb dX0_requireLine_8 rfl (lv_at hl 2 rfl) ?_
  refine lv_iload_n hx hb dX0_requireLine_9 rfl (lv_at hl 3 rfl) ?_
  refine k_callSi (As := [.int (nI c0), .int (nI d0)]) (rest := []) ⟨hx, hb, hml, hown, hts⟩ (c_X0_isCell l (nI c0) (nI d0)) (va_cwS 2 hts gX0_requireLine_X0_isCell rfl rfl rfl (by decide +kernel) ⟨Nat.le_of_ble_eq_true rfl, Nat.le_of_ble_eq_true rfl⟩) k_bl_tt (fun _ _ _ => trivial) rfl hl.1 rfl (Nat.le_of_ble_eq_true rfl) dX0_requireLine_10 ⟨Nat.zero_le _, Nat.zero_le _⟩ ?_
  refine lv_as (y := nI 1) (by rw [inB_nI (by omega) (by decide), inB_nI (by omega) (by decide)]; rfl) ?_
  refine n_if_ne (tgt := 26) hx hb dX0_requireLine_13 (by decide) (by decide) (fun _ => ?_) (fun c_13 => absurd c_13 (by decide))
  refine lv_iload_n hx hb dX0_requireLine_26 rfl (lv_at hl 2 rfl) ?_
  refine lv_iload_n hx hb dX0_requireLine_27 rfl (lv_at hl 0 rfl) ?_
  refine lv_isub hx hb dX0_requireLine_28 ?_
  refine va_mabs (index := 154) hx hb (by rw [hml]; exact hl.1.symm) hown (hts (.methodLink RX0 154 Lib.Math.abs.name) (by decide +kernel)) (hts (.static Lib.Math.abs.name) (by decide +kernel)) (hts (.initialized "java/lang/Math") (by decide +kernel)) (hts (.code Lib.Math.abs.name Lib.Math.abs.code 1 (some .int)) (by decide +kernel)) (Nat.le_of_ble_eq_true rfl) (Nat.le_of_ble_eq_true rfl) (Nat.le_of_ble_eq_true rfl) (Nat.le_of_ble_eq_true rfl) dX0_requireLine_29 ?_
  refine lv_as (y := nI (dist a c0)) (absd a ha c0 hc) ?_
  refine lv_istore (lv' := [(4, .int (nI (dist a c0))), (0, .int (nI a)), (1, .int (nI b)), (2, .int (nI c0)), (3, .int (nI d0))]) hx hb dX0_requireLine_32 hl (by decide) rfl (fun ls hl => ?_)
  refine lv_iload_n hx hb dX0_requireLine_34 rfl (lv_at hl 4 rfl) ?_
  refine lv_iload_n hx hb dX0_requireLine_35 rfl (lv_at hl 2 rfl) ?_
  refine lv_isub hx hb dX0_requireLine_36 ?_
  refine va_mabs (index := 154) hx hb (by rw [hml]; exact hl.1.symm) hown (hts (.methodLink RX0 154 Lib.Math.abs.name) (by decide +kernel)) (hts (.static Lib.Math.abs.name) (by decide +kernel)) (hts (.initialized "java/lang/Math") (by decide +kernel)) (hts (.code Lib.Math.abs.name Lib.Math.abs.code 1 (some .int)) (by decide +kernel)) (Nat.le_of_ble_eq_true rfl) (Nat.le_of_ble_eq_true rfl) (Nat.le_of_ble_eq_true rfl) (Nat.le_of_ble_eq_true rfl) dX0_requireLine_37 ?_
  refine lv_as (y := nI (dist b d0)) (absd b hb5 d0 hd) ?_
  refine lv_istore (lv' := [(5, .int (nI (dist b d0))), (4, .int (nI (dist a c0))), (0, .int (nI a)), (1, .int (nI b)), (2, .int (nI c0)), (3, .int (nI d0))]) hx hb dX0_requireLine_40 hl (by decide) rfl (fun ls hl => ?_)
  refine lv_iload hx hb dX0_requireLine_42 (lv_at hl 1 rfl) ?_
  refine n_if_eq (tgt := 69) hx hb dX0_requireLine_44 (by decide) (by omega) (fun c_44 => ?_) (fun c_44 => ?_)
  · exact k_vret hx hb hr hlocks dX0_requireLine_69
  · refine lv_iload hx hb dX0_requireLine_47 (lv_at hl 0 rfl) ?_
    refine n_if_eq (tgt := 69) hx hb dX0_requireLine_49 (by decide) (by omega) (fun c_49 => ?_) (fun c_49 => ?_)
    · exact k_vret hx hb hr hlocks dX0_requireLine_69
    · refine lv_iload hx hb dX0_requireLine_52 (lv_at hl 1 rfl) ?_
      refine lv_iload hx hb dX0_requireLine_54 (lv_at hl 0 rfl) ?_
      refine n_icmp_eq (tgt := 69) hx hb dX0_requireLine_56 (by decide) (by omega) (by omega) (fun c_56 => ?_) (fun c_56 => ?_)
      · exact k_vret hx hb hr hlocks dX0_requireLine_69
      · exact absurd hor (by omega)
