def lnK (a b c d : Nat) : Bool := decide (dist a c = 0 ∨ dist b d = 0 ∨ dist a c = dist b d)
def lnB (a b c d : Int32) : Bool := inB a 5 && inB b 5 && inB c 5 && inB d 5 && lnK a.toNatClampNeg b.toNatClampNeg c.toNatClampNeg d.toNatClampNeg
theorem lnB_nI {a b c d : Nat} (ha : a < 5) (hb : b < 5) (hc : c < 5) (hd : d < 5) : lnB (nI a) (nI b) (nI c) (nI d) = lnK a b c d := by
  unfold lnB
  rw [inB_nI ha (by decide), inB_nI hb (by decide), inB_nI hc (by decide), inB_nI hd (by decide), nI_clamp (by omega), nI_clamp (by omega), nI_clamp (by omega), nI_clamp (by omega)]
  rfl
theorem lnB_no {a b c d : Int32} (h : (inB a 5 && inB b 5) = false ∨ (inB c 5 && inB d 5) = false) : lnB a b c d = false := by
  unfold lnB
  rcases h with h | h
  · rw [h]; rfl
  · rw [Bool.and_assoc (inB a 5 && inB b 5), h, Bool.and_false]; rfl
theorem lnB_ex {a b c d : Int32} (h : lnB a b c d = true) : ∃ a' b' c' d' : Nat, a' < 5 ∧ b' < 5 ∧ c' < 5 ∧ d' < 5 ∧ a = nI a' ∧ b = nI b' ∧ c = nI c' ∧ d = nI d' ∧ lnK a' b' c' d' = true := by
  have h0 := h
  unfold lnB at h
  simp only [Bool.and_eq_true] at h
  obtain ⟨⟨⟨⟨h1, h2⟩, h3⟩, h4⟩, -⟩ := h
  obtain ⟨a', ha, rfl⟩ := inB_ex (by decide) h1
  obtain ⟨b', hb, rfl⟩ := inB_ex (by decide) h2
  obtain ⟨c', hc, rfl⟩ := inB_ex (by decide) h3
  obtain ⟨d', hd, rfl⟩ := inB_ex (by decide) h4
  rw [lnB_nI ha hb hc hd] at h0
  exact ⟨a', b', c', d', ha, hb, hc, hd, rfl, rfl, rfl, rfl, h0⟩
theorem and_l {a b : Bool} (h : a = false) : (a && b) = false := by rw [h]; rfl
theorem and_r {a b : Bool} (h : b = false) : (a && b) = false := by rw [h, Bool.and_false]
theorem and_t {a b : Bool} (h : a = true) (h2 : b = true) : (a && b) = true := by rw [h, h2]; rfl
set_option maxHeartbeats 4000000 in
set_option maxRecDepth 100000 in
theorem c_X0_requireGlyph (l : Launch) (hst : l.stackTraces = false) (g : Int32) : vx_Met l yX0_requireGlyph wsX0_requireGlyph ({ frames := 6, cells := 1, slots := 6, locals := 90 } : Room) (k_P [.int g] k_ex) (k_CQ none (inB g 8 = true)) (k_XC (fun E => E = k_IO ∧ inB g 8 = false)) 1 6 k_N := by
  refine k_headX (cc := cX0_requireGlyph) (maxL := 1) (ret := none) [(0, .int g)] (by decide) rfl (Nat.le_of_ble_eq_true rfl) rfl ?_
  intro p e s m below meth c ls hx hb hr hml hown hts hlocks ht hB hl
  have hown : s.vm.findClass RX0 = some m.cls := hown
  refine lv_iload_n hx hb dX0_requireGlyph_0 rfl (lv_at hl 0 rfl) ?_
  refine lv_if_lt (tgt := 10) hx hb dX0_requireGlyph_1 (by decide) (fun c_1 => ?_) (fun c_1 => ?_)
  · exact k_throw (cls := k_IO) (text := "no such glyph") (ik := 135) (is := 137) (ic := 139) hx hb hst hown (by decide) (hts (.classLink RX0 135 k_IO) (by decide +kernel)) (hts (.initialized k_IO) (by decide +kernel)) hB (by decide) (fun w h => hts w (List.mem_cons_of_mem _ (List.mem_append_right _ h))) k_ngIO k_gdIO (hl.1.trans hml.symm) dX0_requireGlyph_10 dX0_requireGlyph_13 dX0_requireGlyph_14 dX0_requireGlyph_16 dX0_requireGlyph_19 ht (Nat.le_of_ble_eq_true rfl) (Nat.le_of_ble_eq_true rfl) (Nat.le_of_ble_eq_true rfl) (Nat.le_of_ble_eq_true rfl) hlocks (⟨rfl, by first | exact inB_lt c_1 | exact inB_ge (fa_of_nlt c_7)⟩) (Nat.le_of_ble_eq_true rfl) (Nat.le_of_ble_eq_true rfl)
  · refine lv_iload_n hx hb dX0_requireGlyph_4 rfl (lv_at hl 0 rfl) ?_
    refine lv_bipush (v := nI 8) hx hb dX0_requireGlyph_5 (by decide) ?_
    refine lv_icmp_lt (tgt := 20) hx hb dX0_requireGlyph_7 (by decide) (fun c_7 => ?_) (fun c_7 => ?_)
    · exact k_vretC hx hb hr hlocks dX0_requireGlyph_20 (inB_of c_1 (fun q => absurd c_7 (le_nlt q))) (Nat.le_of_ble_eq_true rfl) (Nat.le_of_ble_eq_true rfl)
    · exact k_throw (cls := k_IO) (text := "no such glyph") (ik := 135) (is := 137) (ic := 139) hx hb hst hown (by decide) (hts (.classLink RX0 135 k_IO) (by decide +kernel)) (hts (.initialized k_IO) (by decide +kernel)) hB (by decide) (fun w h => hts w (List.mem_cons_of_mem _ (List.mem_append_right _ h))) k_ngIO k_gdIO (hl.1.trans hml.symm) dX0_requireGlyph_10 dX0_requireGlyph_13 dX0_requireGlyph_14 dX0_requireGlyph_16 dX0_requireGlyph_19 ht (Nat.le_of_ble_eq_true rfl) (Nat.le_of_ble_eq_true rfl) (Nat.le_of_ble_eq_true rfl) (Nat.le_of_ble_eq_true rfl) hlocks (⟨rfl, by first | exact inB_lt c_1 | exact inB_ge (fa_of_nlt c_7)⟩) (Nat.le_of_ble_eq_true rfl) (Nat.le_of_ble_eq_true rfl)
set_option maxHeartbeats 4000000 in
set_option maxRecDepth 100000 in
theorem c_X0_requirePlace (l : Launch) (hst : l.stackTraces = false) (g : Int32) : vx_Met l yX0_requirePlace wsX0_requirePlace ({ frames := 6, cells := 1, slots := 6, locals := 90 } : Room) (k_P [.int g] k_ex) (k_CQ none (inB g 8 = true)) (k_XC (fun E => E = k_IO ∧ inB g 8 = false)) 1 6 k_N := by
  refine k_headX (cc := cX0_requirePlace) (maxL := 1) (ret := none) [(0, .int g)] (by decide) rfl (Nat.le_of_ble_eq_true rfl) rfl ?_
  intro p e s m below meth c ls hx hb hr hml hown hts hlocks ht hB hl
  have hown : s.vm.findClass RX0 = some m.cls := hown
  refine lv_iload_n hx hb dX0_requirePlace_0 rfl (lv_at hl 0 rfl) ?_
  refine lv_if_lt (tgt := 10) hx hb dX0_requirePlace_1 (by decide) (fun c_1 => ?_) (fun c_1 => ?_)
  · exact k_throw (cls := k_IO) (text := "no such place") (ik := 135) (is := 140) (ic := 139) hx hb hst hown (by decide) (hts (.classLink RX0 135 k_IO) (by decide +kernel)) (hts (.initialized k_IO) (by decide +kernel)) hB (by decide) (fun w h => hts w (List.mem_cons_of_mem _ (List.mem_append_right _ h))) k_ngIO k_gdIO (hl.1.trans hml.symm) dX0_requirePlace_10 dX0_requirePlace_13 dX0_requirePlace_14 dX0_requirePlace_16 dX0_requirePlace_19 ht (Nat.le_of_ble_eq_true rfl) (Nat.le_of_ble_eq_true rfl) (Nat.le_of_ble_eq_true rfl) (Nat.le_of_ble_eq_true rfl) hlocks (⟨rfl, by first | exact inB_lt c_1 | exact inB_ge (fa_of_nlt c_7)⟩) (Nat.le_of_ble_eq_true rfl) (Nat.le_of_ble_eq_true rfl)
  · refine lv_iload_n hx hb dX0_requirePlace_4 rfl (lv_at hl 0 rfl) ?_
    refine lv_bipush (v := nI 8) hx hb dX0_requirePlace_5 (by decide) ?_
    refine lv_icmp_lt (tgt := 20) hx hb dX0_requirePlace_7 (by decide) (fun c_7 => ?_) (fun c_7 => ?_)
    · exact k_vretC hx hb hr hlocks dX0_requirePlace_20 (inB_of c_1 (fun q => absurd c_7 (le_nlt q))) (Nat.le_of_ble_eq_true rfl) (Nat.le_of_ble_eq_true rfl)
    · exact k_throw (cls := k_IO) (text := "no such place") (ik := 135) (is := 140) (ic := 139) hx hb hst hown (by decide) (hts (.classLink RX0 135 k_IO) (by decide +kernel)) (hts (.initialized k_IO) (by decide +kernel)) hB (by decide) (fun w h => hts w (List.mem_cons_of_mem _ (List.mem_append_right _ h))) k_ngIO k_gdIO (hl.1.trans hml.symm) dX0_requirePlace_10 dX0_requirePlace_13 dX0_requirePlace_14 dX0_requirePlace_16 dX0_requirePlace_19 ht (Nat.le_of_ble_eq_true rfl) (Nat.le_of_ble_eq_true rfl) (Nat.le_of_ble_eq_true rfl) (Nat.le_of_ble_eq_true rfl) hlocks (⟨rfl, by first | exact inB_lt c_1 | exact inB_ge (fa_of_nlt c_7)⟩) (Nat.le_of_ble_eq_true rfl) (Nat.le_of_ble_eq_true rfl)
set_option maxHeartbeats 4000000 in
set_option maxRecDepth 100000 in
theorem c_X0_requireExit (l : Launch) (hst : l.stackTraces = false) (g x : Int32) : vx_Met l yX0_requireExit wsX0_requireExit ({ frames := 7, cells := 2, slots := 12, locals := 110 } : Room) (k_P [.int g, .int x] k_ex) (k_CQ none ((inB g 8 && inB x 4) = true)) (k_XC (fun E => E = k_IO ∧ (inB g 8 && inB x 4) = false)) 2 12 k_N := by
  refine k_headX (cc := cX0_requireExit) (maxL := 2) (ret := none) [(0, .int g), (1, .int x)] (by decide) rfl (Nat.le_of_ble_eq_true rfl) rfl ?_
  intro p e s m below meth c ls hx hb hr hml hown hts hlocks ht hB hl
  have hown : s.vm.findClass RX0 = some m.cls := hown
  refine lv_iload_n hx hb dX0_requireExit_0 rfl (lv_at hl 0 rfl) ?_
  refine k_reqS (As := [.int g]) (rest := []) ⟨hx, hb, hml, hown, hts⟩ (c_X0_requirePlace l hst g) (va_cwS 1 hts gX0_requireExit_X0_requirePlace rfl rfl rfl (by decide +kernel) ⟨Nat.le_of_ble_eq_true rfl, Nat.le_of_ble_eq_true rfl⟩) k_ex_bl (k_ex_of hB) rfl hl.1 rfl (Nat.le_of_ble_eq_true rfl) dX0_requireExit_1 ⟨Nat.le_of_ble_eq_true rfl, Nat.le_of_ble_eq_true rfl⟩ (fun E h => ⟨h.1, and_l h.2⟩) ht hlocks (Nat.le_of_ble_eq_true rfl) (Nat.le_of_ble_eq_true rfl) (fun c_1 => ?_)
  refine lv_iload_n hx hb dX0_requireExit_4 rfl (lv_at hl 1 rfl) ?_
  refine lv_if_lt (tgt := 13) hx hb dX0_requireExit_5 (by decide) (fun c_5 => ?_) (fun c_5 => ?_)
  · exact k_throw (cls := k_IO) (text := "no such exit") (ik := 135) (is := 142) (ic := 139) hx hb hst hown (by decide) (hts (.classLink RX0 135 k_IO) (by decide +kernel)) (hts (.initialized k_IO) (by decide +kernel)) hB (by decide) (fun w h => hts w (List.mem_cons_of_mem _ (List.mem_append_right _ h))) k_ngIO k_gdIO (hl.1.trans hml.symm) dX0_requireExit_13 dX0_requireExit_16 dX0_requireExit_17 dX0_requireExit_19 dX0_requireExit_22 ht (Nat.le_of_ble_eq_true rfl) (Nat.le_of_ble_eq_true rfl) (Nat.le_of_ble_eq_true rfl) (Nat.le_of_ble_eq_true rfl) hlocks (⟨rfl, and_r (by first | exact inB_lt c_5 | exact inB_ge (fa_of_nlt c_10))⟩) (Nat.le_of_ble_eq_true rfl) (Nat.le_of_ble_eq_true rfl)
  · refine lv_iload_n hx hb dX0_requireExit_8 rfl (lv_at hl 1 rfl) ?_
    refine lv_iconst (v := nI 4) hx hb dX0_requireExit_9 (by decide) ?_
    refine lv_icmp_lt (tgt := 23) hx hb dX0_requireExit_10 (by decide) (fun c_10 => ?_) (fun c_10 => ?_)
    · exact k_vretC hx hb hr hlocks dX0_requireExit_23 (and_t c_1 (inB_of c_5 (fun q => absurd c_10 (le_nlt q)))) (Nat.le_of_ble_eq_true rfl) (Nat.le_of_ble_eq_true rfl)
    · exact k_throw (cls := k_IO) (text := "no such exit") (ik := 135) (is := 142) (ic := 139) hx hb hst hown (by decide) (hts (.classLink RX0 135 k_IO) (by decide +kernel)) (hts (.initialized k_IO) (by decide +kernel)) hB (by decide) (fun w h => hts w (List.mem_cons_of_mem _ (List.mem_append_right _ h))) k_ngIO k_gdIO (hl.1.trans hml.symm) dX0_requireExit_13 dX0_requireExit_16 dX0_requireExit_17 dX0_requireExit_19 dX0_requireExit_22 ht (Nat.le_of_ble_eq_true rfl) (Nat.le_of_ble_eq_true rfl) (Nat.le_of_ble_eq_true rfl) (Nat.le_of_ble_eq_true rfl) hlocks (⟨rfl, and_r (by first | exact inB_lt c_5 | exact inB_ge (fa_of_nlt c_10))⟩) (Nat.le_of_ble_eq_true rfl) (Nat.le_of_ble_eq_true rfl)
set_option maxHeartbeats 4000000 in
set_option maxRecDepth 100000 in
theorem c_X0_requireText (l : Launch) (hst : l.stackTraces = false) (t m0 : Int32) : vx_Met l yX0_requireText wsX0_requireText ({ frames := 6, cells := 1, slots := 6, locals := 90 } : Room) (k_P [.int t, .int m0] k_ex) (k_CQ none (txB t m0 = true)) (k_XC (fun E => E = k_IA ∧ txB t m0 = false)) 1 6 k_N := by
  refine k_headX (cc := cX0_requireText) (maxL := 2) (ret := none) [(0, .int t), (1, .int m0)] (by decide) rfl (Nat.le_of_ble_eq_true rfl) rfl ?_
  intro p e s m below meth c ls hx hb hr hml hown hts hlocks ht hB hl
  have hown : s.vm.findClass RX0 = some m.cls := hown
  refine lv_iload_n hx hb dX0_requireText_0 rfl (lv_at hl 1 rfl) ?_
  refine lv_iconst (v := nI 1) hx hb dX0_requireText_1 (by decide) ?_
  refine lv_icmp_lt (tgt := 10) hx hb dX0_requireText_2 (by decide) (fun c_2 => ?_) (fun c_2 => ?_)
  · exact k_throw (cls := k_IA) (text := "no such number of glyphs") (ik := 71) (is := 144) (ic := 75) hx hb hst hown (by decide) (hts (.classLink RX0 71 k_IA) (by decide +kernel)) (hts (.initialized k_IA) (by decide +kernel)) hB (by decide) (fun w h => hts w (List.mem_cons_of_mem _ (List.mem_append_right _ h))) k_ngIA k_gdIA (hl.1.trans hml.symm) dX0_requireText_10 dX0_requireText_13 dX0_requireText_14 dX0_requireText_16 dX0_requireText_19 ht (Nat.le_of_ble_eq_true rfl) (Nat.le_of_ble_eq_true rfl) (Nat.le_of_ble_eq_true rfl) (Nat.le_of_ble_eq_true rfl) hlocks (⟨rfl, txB_no (by first | (simp [rgB, c_2]; done) | (simp [rgB, c_7]; done))⟩) (Nat.le_of_ble_eq_true rfl) (Nat.le_of_ble_eq_true rfl)
  · refine lv_iload_n hx hb dX0_requireText_5 rfl (lv_at hl 1 rfl) ?_
    refine lv_iconst (v := nI 5) hx hb dX0_requireText_6 (by decide) ?_
    refine lv_icmp_le (tgt := 20) hx hb dX0_requireText_7 (by decide) (fun c_7 => ?_) (fun c_7 => ?_)
    · obtain ⟨k, hk1, hk5, rfl⟩ := rg_1 m0 (decide_eq_true ⟨c_2, le_nlt c_7⟩)
      have hp8 := p8_le hk5
      refine lv_iload_n hx hb dX0_requireText_20 rfl (lv_at hl 0 rfl) ?_
      refine lv_if_lt (tgt := 33) hx hb dX0_requireText_21 (by decide) (fun c_21 => ?_) (fun c_21 => ?_)
      · exact k_throw (cls := k_IA) (text := "no such text") (ik := 71) (is := 146) (ic := 75) hx hb hst hown (by decide) (hts (.classLink RX0 71 k_IA) (by decide +kernel)) (hts (.initialized k_IA) (by decide +kernel)) hB (by decide) (fun w h => hts w (List.mem_cons_of_mem _ (List.mem_append_right _ h))) k_ngIA k_gdIA (hl.1.trans hml.symm) dX0_requireText_33 dX0_requireText_36 dX0_requireText_37 dX0_requireText_39 dX0_requireText_42 ht (Nat.le_of_ble_eq_true rfl) (Nat.le_of_ble_eq_true rfl) (Nat.le_of_ble_eq_true rfl) (Nat.le_of_ble_eq_true rfl) hlocks (⟨rfl, by rw [txB_k hk1 hk5]; first | exact inB_lt c_21 | exact inB_ge (fa_of_nlt c_30)⟩) (Nat.le_of_ble_eq_true rfl) (Nat.le_of_ble_eq_true rfl)
      · refine lv_iload_n hx hb dX0_requireText_24 rfl (lv_at hl 0 rfl) ?_
        refine lv_iconst (v := nI 1) hx hb dX0_requireText_25 (by decide) ?_
        refine lv_iconst (v := nI 3) hx hb dX0_requireText_26 (by decide) ?_
        refine lv_iload_n hx hb dX0_requireText_27 rfl (lv_at hl 1 rfl) ?_
        refine lv_imul hx hb dX0_requireText_28 ?_
        refine lv_as (y := nI (3 * k)) (pk_mul _ _) ?_
        refine lv_ishl hx hb dX0_requireText_29 ?_
        refine lv_as (y := nI (8 ^ k)) (shl8 k (by omega)) ?_
        refine lv_icmp_lt (tgt := 43) hx hb dX0_requireText_30 (by decide) (fun c_30 => ?_) (fun c_30 => ?_)
        · exact k_vretC hx hb hr hlocks dX0_requireText_43 (by rw [txB_k hk1 hk5]; exact inB_of c_21 (fun q => absurd c_30 (le_nlt q))) (Nat.le_of_ble_eq_true rfl) (Nat.le_of_ble_eq_true rfl)
        · exact k_throw (cls := k_IA) (text := "no such text") (ik := 71) (is := 146) (ic := 75) hx hb hst hown (by decide) (hts (.classLink RX0 71 k_IA) (by decide +kernel)) (hts (.initialized k_IA) (by decide +kernel)) hB (by decide) (fun w h => hts w (List.mem_cons_of_mem _ (List.mem_append_right _ h))) k_ngIA k_gdIA (hl.1.trans hml.symm) dX0_requireText_33 dX0_requireText_36 dX0_requireText_37 dX0_requireText_39 dX0_requireText_42 ht (Nat.le_of_ble_eq_true rfl) (Nat.le_of_ble_eq_true rfl) (Nat.le_of_ble_eq_true rfl) (Nat.le_of_ble_eq_true rfl) hlocks (⟨rfl, by rw [txB_k hk1 hk5]; first | exact inB_lt c_21 | exact inB_ge (fa_of_nlt c_30)⟩) (Nat.le_of_ble_eq_true rfl) (Nat.le_of_ble_eq_true rfl)
    · exact k_throw (cls := k_IA) (text := "no such number of glyphs") (ik := 71) (is := 144) (ic := 75) hx hb hst hown (by decide) (hts (.classLink RX0 71 k_IA) (by decide +kernel)) (hts (.initialized k_IA) (by decide +kernel)) hB (by decide) (fun w h => hts w (List.mem_cons_of_mem _ (List.mem_append_right _ h))) k_ngIA k_gdIA (hl.1.trans hml.symm) dX0_requireText_10 dX0_requireText_13 dX0_requireText_14 dX0_requireText_16 dX0_requireText_19 ht (Nat.le_of_ble_eq_true rfl) (Nat.le_of_ble_eq_true rfl) (Nat.le_of_ble_eq_true rfl) (Nat.le_of_ble_eq_true rfl) hlocks (⟨rfl, txB_no (by first | (simp [rgB, c_2]; done) | (simp [rgB, c_7]; done))⟩) (Nat.le_of_ble_eq_true rfl) (Nat.le_of_ble_eq_true rfl)
set_option maxHeartbeats 4000000 in
set_option maxRecDepth 100000 in
theorem c_X0_requireLine (l : Launch) (hst : l.stackTraces = false) (a b c0 d0 : Int32) : vx_Met l yX0_requireLine wsX0_requireLine ({ frames := 6, cells := 1, slots := 6, locals := 90 } : Room) (k_P [.int a, .int b, .int c0, .int d0] k_ex) (k_CQ none (lnB a b c0 d0 = true)) (k_XC (fun E => E = k_IA ∧ lnB a b c0 d0 = false)) 1 6 k_N := by
  refine k_headX (cc := cX0_requireLine) (maxL := 6) (ret := none) [(0, .int a), (1, .int b), (2, .int c0), (3, .int d0)] (by decide) rfl (Nat.le_of_ble_eq_true rfl) rfl ?_
  intro p e s m below meth c ls hx hb hr hml hown hts hlocks ht hB hl
  have hown : s.vm.findClass RX0 = some m.cls := hown
  refine lv_iload_n hx hb dX0_requireLine_0 rfl (lv_at hl 0 rfl) ?_
  refine lv_iload_n hx hb dX0_requireLine_1 rfl (lv_at hl 1 rfl) ?_
  refine k_callSi (As := [.int a, .int b]) (rest := []) ⟨hx, hb, hml, hown, hts⟩ (c_X0_isCell l a b) (va_cwS 2 hts gX0_requireLine_X0_isCell rfl rfl rfl (by decide +kernel) ⟨Nat.le_of_ble_eq_true rfl, Nat.le_of_ble_eq_true rfl⟩) k_bl_tt (fun _ _ _ => trivial) rfl hl.1 rfl (Nat.le_of_ble_eq_true rfl) dX0_requireLine_2 ⟨Nat.zero_le _, Nat.zero_le _⟩ ?_
  refine b_if_eq (tgt := 16) hx hb dX0_requireLine_5 (by decide) (fun c_5 => ?_) (fun c_5 => ?_)
  · exact k_throw (cls := k_IA) (text := "no such cell") (ik := 71) (is := 152) (ic := 75) hx hb hst hown (by decide) (hts (.classLink RX0 71 k_IA) (by decide +kernel)) (hts (.initialized k_IA) (by decide +kernel)) hB (by decide) (fun w h => hts w (List.mem_cons_of_mem _ (List.mem_append_right _ h))) k_ngIA k_gdIA (hl.1.trans hml.symm) dX0_requireLine_16 dX0_requireLine_19 dX0_requireLine_20 dX0_requireLine_22 dX0_requireLine_25 ht (Nat.le_of_ble_eq_true rfl) (Nat.le_of_ble_eq_true rfl) (Nat.le_of_ble_eq_true rfl) (Nat.le_of_ble_eq_true rfl) hlocks (⟨rfl, by first | exact lnB_no (Or.inl c_5) | exact lnB_no (Or.inr c_13)⟩) (Nat.le_of_ble_eq_true rfl) (Nat.le_of_ble_eq_true rfl)
  · refine lv_iload_n hx hb dX0_requireLine_8 rfl (lv_at hl 2 rfl) ?_
    refine lv_iload_n hx hb dX0_requireLine_9 rfl (lv_at hl 3 rfl) ?_
    refine k_callSi (As := [.int c0, .int d0]) (rest := []) ⟨hx, hb, hml, hown, hts⟩ (c_X0_isCell l c0 d0) (va_cwS 2 hts gX0_requireLine_X0_isCell rfl rfl rfl (by decide +kernel) ⟨Nat.le_of_ble_eq_true rfl, Nat.le_of_ble_eq_true rfl⟩) k_bl_tt (fun _ _ _ => trivial) rfl hl.1 rfl (Nat.le_of_ble_eq_true rfl) dX0_requireLine_10 ⟨Nat.zero_le _, Nat.zero_le _⟩ ?_
    refine b_if_ne (tgt := 26) hx hb dX0_requireLine_13 (by decide) (fun c_13 => ?_) (fun c_13 => ?_)
    · obtain ⟨h1, h2⟩ := Bool.and_eq_true_iff.mp c_5
      obtain ⟨h3, h4⟩ := Bool.and_eq_true_iff.mp c_13
      obtain ⟨a', ha', rfl⟩ := inB_ex (by decide) h1
      obtain ⟨b', hb', rfl⟩ := inB_ex (by decide) h2
      obtain ⟨c', hc', rfl⟩ := inB_ex (by decide) h3
      obtain ⟨d', hd', rfl⟩ := inB_ex (by decide) h4
      refine lv_iload_n hx hb dX0_requireLine_26 rfl (lv_at hl 2 rfl) ?_
      refine lv_iload_n hx hb dX0_requireLine_27 rfl (lv_at hl 0 rfl) ?_
      refine lv_isub hx hb dX0_requireLine_28 ?_
      refine va_mabs (index := 154) hx hb (by rw [hml]; exact hl.1.symm) hown (hts (.methodLink RX0 154 Lib.Math.abs.name) (by decide +kernel)) (hts (.static Lib.Math.abs.name) (by decide +kernel)) (hts (.initialized "java/lang/Math") (by decide +kernel)) (hts (.code Lib.Math.abs.name Lib.Math.abs.code 1 (some .int)) (by decide +kernel)) (Nat.le_of_ble_eq_true rfl) (Nat.le_of_ble_eq_true rfl) (Nat.le_of_ble_eq_true rfl) (Nat.le_of_ble_eq_true rfl) dX0_requireLine_29 ?_
      refine lv_as (y := nI (dist a' c')) (absd a' ha' c' hc') ?_
      refine lv_istore (lv' := [(4, .int (nI (dist a' c'))), (0, .int (nI a')), (1, .int (nI b')), (2, .int (nI c')), (3, .int (nI d'))]) hx hb dX0_requireLine_32 hl (by decide) rfl (fun ls hl => ?_)
      refine lv_iload_n hx hb dX0_requireLine_34 rfl (lv_at hl 4 rfl) ?_
      refine lv_iload_n hx hb dX0_requireLine_35 rfl (lv_at hl 2 rfl) ?_
      refine lv_isub hx hb dX0_requireLine_36 ?_
      refine va_mabs (index := 154) hx hb (by rw [hml]; exact hl.1.symm) hown (hts (.methodLink RX0 154 Lib.Math.abs.name) (by decide +kernel)) (hts (.static Lib.Math.abs.name) (by decide +kernel)) (hts (.initialized "java/lang/Math") (by decide +kernel)) (hts (.code Lib.Math.abs.name Lib.Math.abs.code 1 (some .int)) (by decide +kernel)) (Nat.le_of_ble_eq_true rfl) (Nat.le_of_ble_eq_true rfl) (Nat.le_of_ble_eq_true rfl) (Nat.le_of_ble_eq_true rfl) dX0_requireLine_37 ?_
      refine lv_as (y := nI (dist b' d')) (absd b' hb' d' hd') ?_
      refine lv_istore (lv' := [(5, .int (nI (dist b' d'))), (4, .int (nI (dist a' c'))), (0, .int (nI a')), (1, .int (nI b')), (2, .int (nI c')), (3, .int (nI d'))]) hx hb dX0_requireLine_40 hl (by decide) rfl (fun ls hl => ?_)
      refine lv_iload hx hb dX0_requireLine_42 (lv_at hl 1 rfl) ?_
      refine n_if_eq (tgt := 69) hx hb dX0_requireLine_44 (by decide) (by have := dist_lt a' ha' c' hc'; omega) (fun c_44 => ?_) (fun c_44 => ?_)
      · exact k_vretC hx hb hr hlocks dX0_requireLine_69 (by rw [lnB_nI ha' hb' hc' hd']; exact decide_eq_true (by omega)) (Nat.le_of_ble_eq_true rfl) (Nat.le_of_ble_eq_true rfl)
      · refine lv_iload hx hb dX0_requireLine_47 (lv_at hl 0 rfl) ?_
        refine n_if_eq (tgt := 69) hx hb dX0_requireLine_49 (by decide) (by have := dist_lt b' hb' d' hd'; omega) (fun c_49 => ?_) (fun c_49 => ?_)
        · exact k_vretC hx hb hr hlocks dX0_requireLine_69 (by rw [lnB_nI ha' hb' hc' hd']; exact decide_eq_true (by omega)) (Nat.le_of_ble_eq_true rfl) (Nat.le_of_ble_eq_true rfl)
        · refine lv_iload hx hb dX0_requireLine_52 (lv_at hl 1 rfl) ?_
          refine lv_iload hx hb dX0_requireLine_54 (lv_at hl 0 rfl) ?_
          refine n_icmp_eq (tgt := 69) hx hb dX0_requireLine_56 (by decide) (by have := dist_lt a' ha' c' hc'; omega) (by have := dist_lt b' hb' d' hd'; omega) (fun c_56 => ?_) (fun c_56 => ?_)
          · exact k_vretC hx hb hr hlocks dX0_requireLine_69 (by rw [lnB_nI ha' hb' hc' hd']; exact decide_eq_true (by omega)) (Nat.le_of_ble_eq_true rfl) (Nat.le_of_ble_eq_true rfl)
          · exact k_throw (cls := k_IA) (text := "no such line") (ik := 71) (is := 159) (ic := 75) hx hb hst hown (by decide) (hts (.classLink RX0 71 k_IA) (by decide +kernel)) (hts (.initialized k_IA) (by decide +kernel)) hB (by decide) (fun w h => hts w (List.mem_cons_of_mem _ (List.mem_append_right _ h))) k_ngIA k_gdIA (hl.1.trans hml.symm) dX0_requireLine_59 dX0_requireLine_62 dX0_requireLine_63 dX0_requireLine_65 dX0_requireLine_68 ht (Nat.le_of_ble_eq_true rfl) (Nat.le_of_ble_eq_true rfl) (Nat.le_of_ble_eq_true rfl) (Nat.le_of_ble_eq_true rfl) hlocks (⟨rfl, by rw [lnB_nI ha' hb' hc' hd']; exact decide_eq_false (by omega)⟩) (Nat.le_of_ble_eq_true rfl) (Nat.le_of_ble_eq_true rfl)
    · exact k_throw (cls := k_IA) (text := "no such cell") (ik := 71) (is := 152) (ic := 75) hx hb hst hown (by decide) (hts (.classLink RX0 71 k_IA) (by decide +kernel)) (hts (.initialized k_IA) (by decide +kernel)) hB (by decide) (fun w h => hts w (List.mem_cons_of_mem _ (List.mem_append_right _ h))) k_ngIA k_gdIA (hl.1.trans hml.symm) dX0_requireLine_16 dX0_requireLine_19 dX0_requireLine_20 dX0_requireLine_22 dX0_requireLine_25 ht (Nat.le_of_ble_eq_true rfl) (Nat.le_of_ble_eq_true rfl) (Nat.le_of_ble_eq_true rfl) (Nat.le_of_ble_eq_true rfl) hlocks (⟨rfl, by first | exact lnB_no (Or.inl c_5) | exact lnB_no (Or.inr c_13)⟩) (Nat.le_of_ble_eq_true rfl) (Nat.le_of_ble_eq_true rfl)
