abbrev wdS (sh : Nat → Int32) : Nat → Int32 := fun g => wdF (hcC (sh g))
abbrev dS (sh : Nat → Int32) (x : Int32) : Nat → Int32 := fun g => df x (sh g)
abbrev rdS (sh ct ds : Nat → Int32) (w : Nat) : Nat → Nat := fun j => rdG (dS sh (ct (w * 5 + j))) (ds w)
abbrev oldC (sh ct : Nat → Int32) (w t : Nat) : Nat → Bool := fun j => decide (ct (w * 5 + j) ≠ sh (dg t j))
def rdas (sh ct ds : Nat → Int32) (w k gk gt : Nat) : Bool := decide (k = gk ∧ rtN (rdS sh ct ds w) k = gt)
abbrev toldC (sh ct ds : Nat → Int32) (K : Nat → Nat) (gk gt : Nat) : Nat → Bool := fun w => rdas sh ct ds w (K w) gk gt
abbrev arrC (NK NT : Nat → Nat) (gk gt : Nat) : Nat → Bool := fun p => decide (NK p = gk ∧ NT p = gt)
theorem pwC_z {wd sp : Nat → Int32} {t j : Nat} (h : j = 0) : pwC wd sp t (j + 1) = pwC wd sp t j + wd (dg t j) := by
  show (if 0 < j then _ else _) = _
  rw [if_neg (by omega)]
theorem pwC_p {wd sp : Nat → Int32} {t j : Nat} (h : 0 < j) : pwC wd sp t (j + 1) = (pwC wd sp t j + wd (dg t j)) + sp (dg t j * 8 + dg t (j - 1)) := by
  show (if 0 < j then _ else _) = _
  rw [if_pos h]
theorem le_nlt {a b : Int32} (h : a ≤ b) : ¬ b < a := by
  rw [fa_le] at h
  rw [fa_lt]
  omega
theorem fb_f {b : Nat → Bool} {n : Nat} (h : b n = false) : fb b (n + 1) = fb b n := by rw [fb_s, if_neg (fun q => by rw [h] at q; exact absurd q.2 (by decide))]
theorem fb_t {b : Nat → Bool} {n : Nat} (h4 : fb b n = 4) (h : b n = true) : fb b (n + 1) = n := by rw [fb_s, if_pos ⟨h4, h⟩]
theorem fb_n {b : Nat → Bool} {n : Nat} (h4 : fb b n ≠ 4) : fb b (n + 1) = fb b n := by rw [fb_s, if_neg (fun q => h4 q.1)]
theorem nx_t {a b : Nat → Bool} {i : Nat} (h4 : fb a i = 4) (h : a i = true) (hi : i < 4) : nxE a b = i := by
  have h1 := fb_stay (fb_t h4 h) (by omega) 4 (by omega)
  rw [nxE, h1, if_neg (by omega)]
theorem nx_n {a b : Nat → Bool} (h4 : fb a 4 = 4) : nxE a b = fb b 4 := by rw [nxE, if_pos h4]
theorem sa_a {told : Nat → Bool} {Ld : Nat → Nat} {arr : Nat → Bool} {f n p : Nat} {tk : Nat → Bool} (h : arr p = true) : sa told Ld arr (f + 1) n p tk = nI n := by
  show (if arr p then _ else _) = _
  rw [if_pos h]
theorem sa_l {told : Nat → Bool} {Ld : Nat → Nat} {arr : Nat → Bool} {f n p : Nat} {tk : Nat → Bool} (h : arr p = false) (h4 : nx told Ld tk p = 4) : sa told Ld arr (f + 1) n p tk = -1 := by
  show (if arr p then _ else if _ then _ else _) = _
  rw [if_neg (by rw [h]; decide), if_pos h4]
theorem sa_s {told : Nat → Bool} {Ld : Nat → Nat} {arr : Nat → Bool} {f n p e : Nat} {tk : Nat → Bool} (h : arr p = false) (h4 : nx told Ld tk p = e) (he : e < 4) : sa told Ld arr (f + 1) n p tk = sa told Ld arr f (n + 1) (Ld (4 * p + e)) (tkA tk (4 * p + e)) := by
  show (if arr p then _ else if _ then _ else _) = _
  rw [if_neg (by rw [h]; decide), if_neg (by omega), h4]
theorem pl_a {told : Nat → Bool} {Ld : Nat → Nat} {arr : Nat → Bool} {f p : Nat} {tk : Nat → Bool} (h : arr p = true) : pl told Ld arr (f + 1) p tk = p := by
  show (if arr p then _ else _) = _
  rw [if_pos h]
theorem pl_l {told : Nat → Bool} {Ld : Nat → Nat} {arr : Nat → Bool} {f p : Nat} {tk : Nat → Bool} (h4 : nx told Ld tk p = 4) : pl told Ld arr (f + 1) p tk = p := by
  show (if arr p then p else if nx told Ld tk p = 4 then p else _) = p
  rw [if_pos h4]
  split <;> rfl
theorem pl_s {told : Nat → Bool} {Ld : Nat → Nat} {arr : Nat → Bool} {f p e : Nat} {tk : Nat → Bool} (h : arr p = false) (h4 : nx told Ld tk p = e) (he : e < 4) : pl told Ld arr (f + 1) p tk = pl told Ld arr f (Ld (4 * p + e)) (tkA tk (4 * p + e)) := by
  show (if arr p then _ else if _ then _ else _) = _
  rw [if_neg (by rw [h]; decide), if_neg (by omega), h4]
set_option maxHeartbeats 4000000 in
set_option maxRecDepth 100000 in
theorem c_X0_packedWidth (l : Launch) (D : va_G) (cI : ClassId) (q : Nat → Nat) (sh sp ld nm tx ds ct : Nat → Int32) (co : Int64) (kg : Int32) (ks : Nat → Int32) (t k : Nat) (ht : t < 32768) (hk : k ≤ 5) : k_M l yX0_packedWidth wsX0_packedWidth ({ frames := 4, cells := 0, slots := 0, locals := 95 } : Room) [.ref (q 0), .int (nI (32768 * k + t))] (k_B D (wx cI q sh sp ld nm tx ds ct co kg ks) [(cI, .int)]) (some (.int (pwC (wdS sh) sp t k))) := by
  refine k_head (cc := cX0_packedWidth) (maxL := 5) (ret := some .int) [(0, .ref (q 0)), (1, .int (nI (32768 * k + t)))] (by decide) rfl (Nat.le_of_ble_eq_true rfl) rfl ?_
  intro p e s m below meth c ls hx hb hr hml hown hts hlocks hname hB hl
  have hown : s.vm.findClass RX0 = some m.cls := hown
  obtain ⟨hP, hK⟩ := hB
  have hin : ∀ w ∈ wsX00, w ∈ wsX0_packedWidth := fun w h => List.mem_cons_of_mem _ (List.mem_append_right _ h)
  refine lv_iconst (v := nI 0) hx hb dX0_packedWidth_0 (by decide) ?_
  refine lv_istore_n (lv' := [(2, .int (nI 0)), (0, .ref (q 0)), (1, .int (nI (32768 * k + t)))]) hx hb dX0_packedWidth_1 rfl hl (by decide) rfl (fun ls hl => ?_)
  refine lv_iconst (v := nI 0) hx hb dX0_packedWidth_2 (by decide) ?_
  refine lv_istore_n (lv' := [(3, .int (nI 0)), (2, .int (nI 0)), (0, .ref (q 0)), (1, .int (nI (32768 * k + t)))]) hx hb dX0_packedWidth_3 rfl hl (by decide) rfl (fun ls hl => ?_)
  refine W.loop (fun i ls => ∃ (v2 : Int32), (v2 = pwC (wdS sh) sp t i) ∧ lv_has ls 5 [(0, .ref (q 0)), (1, .int (nI (32768 * k + t))), (2, .int v2), (3, .int (nI i))]) (k) (0) (by omega) ⟨nI 0, rfl, lv_sub hl [2, 3, 1, 0] rfl⟩ ?_
  intro i ls hi_4 hI_4 ih_4
  obtain ⟨v2, hf0_4, hl⟩ := hI_4
  refine lv_iload_n hx hb dX0_packedWidth_4 rfl (lv_at hl 3 rfl) ?_
  refine lv_iload_n hx hb dX0_packedWidth_5 rfl (lv_at hl 1 rfl) ?_
  refine k_callSi (As := [.int (nI (32768 * k + t))]) (rest := [.int (nI i)]) ⟨hx, hb, hml, hown, hts⟩ (c_X0_manyOf l t k (by omega) (by omega)) (va_cwS 1 hts gX0_packedWidth_X0_manyOf rfl rfl rfl (by decide +kernel) ⟨Nat.le_of_ble_eq_true rfl, Nat.le_of_ble_eq_true rfl⟩) k_bl_tt (fun _ _ _ => trivial) rfl hl.1 rfl (Nat.le_of_ble_eq_true rfl) dX0_packedWidth_6 ⟨Nat.zero_le _, Nat.zero_le _⟩ ?_
  refine n_icmp_ge (tgt := 62) hx hb dX0_packedWidth_9 (by decide) (by omega) (by omega) (fun c_9 => ?_) (fun c_9 => ?_)
  · refine lv_iload_n hx hb dX0_packedWidth_62 rfl (lv_at hl 2 rfl) ?_
    exact k_iret hx hb hr hlocks dX0_packedWidth_63 (by rw [hf0_4, show i = k from by omega])
  · refine lv_iload_n hx hb dX0_packedWidth_12 rfl (lv_at hl 1 rfl) ?_
    refine lv_iload_n hx hb dX0_packedWidth_13 rfl (lv_at hl 3 rfl) ?_
    refine k_callSi (As := [.int (nI (32768 * k + t)), .int (nI i)]) (rest := []) ⟨hx, hb, hml, hown, hts⟩ (c_X0_glyphAt l t k i (by omega) (by omega) (by omega)) (va_cwS 2 hts gX0_packedWidth_X0_glyphAt rfl rfl rfl (by decide +kernel) ⟨Nat.le_of_ble_eq_true rfl, Nat.le_of_ble_eq_true rfl⟩) k_bl_tt (fun _ _ _ => trivial) rfl hl.1 rfl (Nat.le_of_ble_eq_true rfl) dX0_packedWidth_14 ⟨Nat.zero_le _, Nat.zero_le _⟩ ?_
    refine lv_istore (lv' := [(4, .int (nI (dg t i))), (0, .ref (q 0)), (1, .int (nI (32768 * k + t))), (2, .int v2), (3, .int (nI i))]) hx hb dX0_packedWidth_17 hl (by decide) rfl (fun ls hl => ?_)
    refine lv_iload_n hx hb dX0_packedWidth_19 rfl (lv_at hl 3 rfl) ?_
    refine lv_aload_n hx hb dX0_packedWidth_20 rfl (lv_at hl 1 rfl) ?_
    refine va_get (D := D) (ci := 0) (v := .ref (q 1)) (C := RX0) (T := TX0) (N := 10) hx hb hts hin hown hK hP 0 rfl rfl 0 (by decide) (hts (.fieldLink RX0 9 "SignRail" "shapes" "[I") (by decide +kernel)) (fun _ h9 => h9) rfl dX0_packedWidth_21 ?_
    refine lv_iload hx hb dX0_packedWidth_24 (lv_at hl 0 rfl) ?_
    refine n_iald hx hb hK hP 1 0 rfl rfl (k := (dg t i)) (dg_lt _ _) (Nat.le_of_ble_eq_true rfl) dX0_packedWidth_26 ?_
    refine k_callSi (As := [.int (sh (dg t i))]) (rest := [.int v2]) ⟨hx, hb, hml, hown, hts⟩ (c_X0_shapeWidth l (sh (dg t i))) (va_cwS 1 hts gX0_packedWidth_X0_shapeWidth rfl rfl rfl (by decide +kernel) ⟨Nat.le_of_ble_eq_true rfl, Nat.le_of_ble_eq_true rfl⟩) k_bl_tt (fun _ _ _ => trivial) rfl hl.1 rfl (Nat.le_of_ble_eq_true rfl) dX0_packedWidth_27 ⟨Nat.zero_le _, Nat.zero_le _⟩ ?_
    refine lv_iadd hx hb dX0_packedWidth_30 ?_
    refine lv_istore_n (lv' := [(2, .int (v2 + (wdF (hcC (sh (dg t i)))))), (4, .int (nI (dg t i))), (0, .ref (q 0)), (1, .int (nI (32768 * k + t))), (3, .int (nI i))]) hx hb dX0_packedWidth_31 rfl hl (by decide) rfl (fun ls hl => ?_)
    refine lv_iload_n hx hb dX0_packedWidth_32 rfl (lv_at hl 4 rfl) ?_
    refine n_if_le (tgt := 56) hx hb dX0_packedWidth_33 (by decide) (by omega) (fun c_33 => ?_) (fun c_33 => ?_)
    · refine lv_iinc (v := nI (i + 1)) (lv' := [(3, .int (nI (i + 1))), (2, .int (v2 + (wdF (hcC (sh (dg t i)))))), (4, .int (nI (dg t i))), (0, .ref (q 0)), (1, .int (nI (32768 * k + t)))]) hx hb dX0_packedWidth_56 hl (k := 4) rfl (nI_inc _) (by decide) rfl (fun ls hl => ?_)
      refine lv_goto (tgt := 4) hx hb dX0_packedWidth_59 (by decide) ?_
      exact ih_4 _ (by omega) ⟨v2 + (wdF (hcC (sh (dg t i)))), by rw [pwC_z c_33, ← hf0_4], lv_sub hl [3, 4, 1, 0] rfl⟩
    · refine lv_iload_n hx hb dX0_packedWidth_36 rfl (lv_at hl 0 rfl) ?_
      refine lv_aload_n hx hb dX0_packedWidth_37 rfl (lv_at hl 2 rfl) ?_
      refine va_get (D := D) (ci := 0) (v := .ref (q 2)) (C := RX0) (T := TX0) (N := 10) hx hb hts hin hown hK hP 0 rfl rfl 1 (by decide) (hts (.fieldLink RX0 13 "SignRail" "spaces" "[I") (by decide +kernel)) (fun _ h9 => h9) rfl dX0_packedWidth_38 ?_
      refine lv_iload hx hb dX0_packedWidth_41 (lv_at hl 1 rfl) ?_
      refine lv_iload_n hx hb dX0_packedWidth_43 rfl (lv_at hl 3 rfl) ?_
      refine lv_iload_n hx hb dX0_packedWidth_44 rfl (lv_at hl 4 rfl) ?_
      refine lv_iconst (v := nI 1) hx hb dX0_packedWidth_45 (by decide) ?_
      refine lv_isub hx hb dX0_packedWidth_46 ?_
      refine lv_as (y := nI (i - 1)) (pk_sub (by omega)) ?_
      refine k_callSi (As := [.int (nI (32768 * k + t)), .int (nI (i - 1))]) (rest := [.int (nI (dg t i)), .ref (q 2), .int (v2 + (wdF (hcC (sh (dg t i)))))]) ⟨hx, hb, hml, hown, hts⟩ (c_X0_glyphAt l t k (i - 1) (by omega) (by omega) (by omega)) (va_cwS 2 hts gX0_packedWidth_X0_glyphAt rfl rfl rfl (by decide +kernel) ⟨Nat.le_of_ble_eq_true rfl, Nat.le_of_ble_eq_true rfl⟩) k_bl_tt (fun _ _ _ => trivial) rfl hl.1 rfl (Nat.le_of_ble_eq_true rfl) dX0_packedWidth_47 ⟨Nat.zero_le _, Nat.zero_le _⟩ ?_
      refine k_callSi (As := [.int (nI (dg t i)), .int (nI (dg t (i - 1)))]) (rest := [.ref (q 2), .int (v2 + (wdF (hcC (sh (dg t i)))))]) ⟨hx, hb, hml, hown, hts⟩ (c_X0_pairOf l (dg t i) (dg t (i - 1))) (va_cwS 2 hts gX0_packedWidth_X0_pairOf rfl rfl rfl (by decide +kernel) ⟨Nat.le_of_ble_eq_true rfl, Nat.le_of_ble_eq_true rfl⟩) k_bl_tt (fun _ _ _ => trivial) rfl hl.1 rfl (Nat.le_of_ble_eq_true rfl) dX0_packedWidth_50 ⟨Nat.zero_le _, Nat.zero_le _⟩ ?_
      refine n_iald hx hb hK hP 2 0 rfl rfl (k := ((dg t i) * 8 + (dg t (i - 1)))) (by have h1 := dg_lt t i; have h2 := dg_lt t (i - 1); omega) (Nat.le_of_ble_eq_true rfl) dX0_packedWidth_53 ?_
      refine lv_iadd hx hb dX0_packedWidth_54 ?_
      refine lv_istore_n (lv' := [(2, .int ((v2 + (wdF (hcC (sh (dg t i))))) + (sp ((dg t i) * 8 + (dg t (i - 1)))))), (4, .int (nI (dg t i))), (0, .ref (q 0)), (1, .int (nI (32768 * k + t))), (3, .int (nI i))]) hx hb dX0_packedWidth_55 rfl hl (by decide) rfl (fun ls hl => ?_)
      refine lv_iinc (v := nI (i + 1)) (lv' := [(3, .int (nI (i + 1))), (2, .int ((v2 + (wdF (hcC (sh (dg t i))))) + (sp ((dg t i) * 8 + (dg t (i - 1)))))), (4, .int (nI (dg t i))), (0, .ref (q 0)), (1, .int (nI (32768 * k + t)))]) hx hb dX0_packedWidth_56 hl (k := 4) rfl (nI_inc _) (by decide) rfl (fun ls hl => ?_)
      refine lv_goto (tgt := 4) hx hb dX0_packedWidth_59 (by decide) ?_
      exact ih_4 _ (by omega) ⟨(v2 + (wdF (hcC (sh (dg t i))))) + (sp ((dg t i) * 8 + (dg t (i - 1)))), by rw [pwC_p c_33, ← hf0_4], lv_sub hl [3, 4, 1, 0] rfl⟩
set_option maxHeartbeats 4000000 in
set_option maxRecDepth 100000 in
theorem c_X0_plateFor (l : Launch) (D : va_G) (cI : ClassId) (q : Nat → Nat) (sh sp ld nm tx ds ct : Nat → Int32) (co : Int64) (kg : Int32) (ks : Nat → Int32) (t k : Nat) (ht : t < 32768) (hk : k ≤ 5) : k_M l yX0_plateFor wsX0_plateFor ({ frames := 5, cells := 0, slots := 0, locals := 119 } : Room) [.ref (q 0), .int (nI (32768 * k + t))] (k_B D (wx cI q sh sp ld nm tx ds ct co kg ks) [(cI, .int)]) (some (.int (plF (pwC (wdS sh) sp t k)))) := by
  refine k_head (cc := cX0_plateFor) (maxL := 3) (ret := some .int) [(0, .ref (q 0)), (1, .int (nI (32768 * k + t)))] (by decide) rfl (Nat.le_of_ble_eq_true rfl) rfl ?_
  intro p e s m below meth c ls hx hb hr hml hown hts hlocks hname hB hl
  have hown : s.vm.findClass RX0 = some m.cls := hown
  obtain ⟨hP, hK⟩ := hB
  have hin : ∀ w ∈ wsX00, w ∈ wsX0_plateFor := fun w h => List.mem_cons_of_mem _ (List.mem_append_right _ h)
  refine lv_aload_n hx hb dX0_plateFor_0 rfl (lv_at hl 0 rfl) ?_
  refine lv_iload_n hx hb dX0_plateFor_1 rfl (lv_at hl 1 rfl) ?_
  refine k_callVi (As := [.int (nI (32768 * k + t))]) (rest := []) ⟨hx, hb, hml, hown, hts⟩ (c_X0_packedWidth l D cI q sh sp ld nm tx ds ct co kg ks t k (by omega) (by omega)) (cwV 1 hts gX0_plateFor_X0_packedWidth rfl rfl rfl (by decide +kernel) ⟨Nat.le_of_ble_eq_true rfl, Nat.le_of_ble_eq_true rfl⟩) k_B_bl (k_B_of hP hK) (va_recv hK hP (ci := 0) (q0 := 0) rfl rfl) rfl hl.1 rfl (Nat.le_of_ble_eq_true rfl) dX0_plateFor_2 ⟨Nat.zero_le _, Nat.zero_le _⟩ ?_
  refine lv_istore_n (lv' := [(2, .int (pwC (wdS sh) sp t k)), (0, .ref (q 0)), (1, .int (nI (32768 * k + t)))]) hx hb dX0_plateFor_5 rfl hl (by decide) rfl (fun ls hl => ?_)
  refine lv_iload_n hx hb dX0_plateFor_6 rfl (lv_at hl 0 rfl) ?_
  refine lv_bipush (v := nI 10) hx hb dX0_plateFor_7 (by decide) ?_
  refine lv_icmp_gt (tgt := 14) hx hb dX0_plateFor_9 (by decide) (fun c_9 => ?_) (fun c_9 => ?_)
  · refine lv_iload_n hx hb dX0_plateFor_14 rfl (lv_at hl 0 rfl) ?_
    refine lv_bipush (v := nI 20) hx hb dX0_plateFor_15 (by decide) ?_
    refine lv_icmp_gt (tgt := 23) hx hb dX0_plateFor_17 (by decide) (fun c_17 => ?_) (fun c_17 => ?_)
    · refine lv_iload_n hx hb dX0_plateFor_23 rfl (lv_at hl 0 rfl) ?_
      refine lv_bipush (v := nI 30) hx hb dX0_plateFor_24 (by decide) ?_
      refine lv_icmp_gt (tgt := 34) hx hb dX0_plateFor_26 (by decide) (fun c_26 => ?_) (fun c_26 => ?_)
      · refine lv_iconst (v := (-1)) hx hb dX0_plateFor_34 (by decide) ?_
        exact k_iret hx hb hr hlocks dX0_plateFor_35 (by rw [plF, if_pos c_9, if_pos c_17, if_pos c_26])
      · refine lv_bipush (v := nI 10) hx hb dX0_plateFor_29 (by decide) ?_
        refine lv_goto (tgt := 35) hx hb dX0_plateFor_31 (by decide) ?_
        exact k_iret hx hb hr hlocks dX0_plateFor_35 (by rw [plF, if_pos c_9, if_pos c_17, if_neg c_26])
    · refine lv_bipush (v := nI 7) hx hb dX0_plateFor_20 (by decide) ?_
      exact k_iret hx hb hr hlocks dX0_plateFor_22 (by rw [plF, if_pos c_9, if_neg c_17])
  · refine lv_iconst (v := nI 4) hx hb dX0_plateFor_12 (by decide) ?_
    exact k_iret hx hb hr hlocks dX0_plateFor_13 (by rw [plF, if_neg c_9])
set_option maxHeartbeats 4000000 in
set_option maxRecDepth 100000 in
theorem c_X0_isOutdated (l : Launch) (D : va_G) (cI : ClassId) (q : Nat → Nat) (sh sp ld nm tx ds ct : Nat → Int32) (co : Int64) (kg : Int32) (ks : Nat → Int32) (w t k : Nat) (hw : w < 32) (ht : t < 32768) (hk : k ≤ 5) (htx : tx w = nI (32768 * k + t)) : k_M l yX0_isOutdated wsX0_isOutdated ({ frames := 1, cells := 0, slots := 0, locals := 21 } : Room) [.ref (q 0), .int (nI w)] (k_B D (wx cI q sh sp ld nm tx ds ct co kg ks) [(cI, .int)]) (some (.int (bI (anyB (oldC sh ct w t) k)))) := by
  refine k_head (cc := cX0_isOutdated) (maxL := 4) (ret := some .boolean) [(0, .ref (q 0)), (1, .int (nI w))] (by decide) rfl (Nat.le_of_ble_eq_true rfl) rfl ?_
  intro p e s m below meth c ls hx hb hr hml hown hts hlocks hname hB hl
  have hown : s.vm.findClass RX0 = some m.cls := hown
  obtain ⟨hP, hK⟩ := hB
  have hin : ∀ w ∈ wsX00, w ∈ wsX0_isOutdated := fun w h => List.mem_cons_of_mem _ (List.mem_append_right _ h)
  refine lv_aload_n hx hb dX0_isOutdated_0 rfl (lv_at hl 0 rfl) ?_
  refine va_get (D := D) (ci := 0) (v := .ref (q 5)) (C := RX0) (T := TX0) (N := 10) hx hb hts hin hown hK hP 0 rfl rfl 4 (by decide) (hts (.fieldLink RX0 22 "SignRail" "signTexts" "[I") (by decide +kernel)) (fun _ h9 => h9) rfl dX0_isOutdated_1 ?_
  refine lv_iload_n hx hb dX0_isOutdated_4 rfl (lv_at hl 1 rfl) ?_
  refine n_iald hx hb hK hP 5 0 rfl rfl (k := w) (by omega) (Nat.le_of_ble_eq_true rfl) dX0_isOutdated_5 ?_
  refine lv_as (y := nI (32768 * k + t)) (htx) ?_
  refine lv_istore_n (lv' := [(2, .int (nI (32768 * k + t))), (0, .ref (q 0)), (1, .int (nI w))]) hx hb dX0_isOutdated_6 rfl hl (by decide) rfl (fun ls hl => ?_)
  refine lv_iconst (v := nI 0) hx hb dX0_isOutdated_7 (by decide) ?_
  refine lv_istore_n (lv' := [(3, .int (nI 0)), (2, .int (nI (32768 * k + t))), (0, .ref (q 0)), (1, .int (nI w))]) hx hb dX0_isOutdated_8 rfl hl (by decide) rfl (fun ls hl => ?_)
  refine W.loop (fun i ls => (anyB (oldC sh ct w t) i = false) ∧ lv_has ls 4 [(0, .ref (q 0)), (1, .int (nI w)), (2, .int (nI (32768 * k + t))), (3, .int (nI i))]) (k) (0) (by omega) ⟨rfl, lv_sub hl [2, 3, 1, 0] rfl⟩ ?_
  intro i ls hi_9 hI_9 ih_9
  obtain ⟨hf0_9, hl⟩ := hI_9
  refine lv_iload_n hx hb dX0_isOutdated_9 rfl (lv_at hl 3 rfl) ?_
  refine lv_iload_n hx hb dX0_isOutdated_10 rfl (lv_at hl 2 rfl) ?_
  refine k_callSi (As := [.int (nI (32768 * k + t))]) (rest := [.int (nI i)]) ⟨hx, hb, hml, hown, hts⟩ (c_X0_manyOf l t k (by omega) (by omega)) (va_cwS 1 hts gX0_isOutdated_X0_manyOf rfl rfl rfl (by decide +kernel) ⟨Nat.le_of_ble_eq_true rfl, Nat.le_of_ble_eq_true rfl⟩) k_bl_tt (fun _ _ _ => trivial) rfl hl.1 rfl (Nat.le_of_ble_eq_true rfl) dX0_isOutdated_11 ⟨Nat.zero_le _, Nat.zero_le _⟩ ?_
  refine n_icmp_ge (tgt := 48) hx hb dX0_isOutdated_14 (by decide) (by omega) (by omega) (fun c_14 => ?_) (fun c_14 => ?_)
  · refine lv_iconst (v := nI 0) hx hb dX0_isOutdated_48 (by decide) ?_
    exact k_zret hx hb hr hlocks dX0_isOutdated_49 (by rw [← show i = k from by omega, hf0_9]; rfl)
  · refine lv_aload_n hx hb dX0_isOutdated_17 rfl (lv_at hl 0 rfl) ?_
    refine va_get (D := D) (ci := 0) (v := .ref (q 7)) (C := RX0) (T := TX0) (N := 10) hx hb hts hin hown hK hP 0 rfl rfl 6 (by decide) (hts (.fieldLink RX0 28 "SignRail" "signShapes" "[I") (by decide +kernel)) (fun _ h9 => h9) rfl dX0_isOutdated_18 ?_
    refine lv_iload_n hx hb dX0_isOutdated_21 rfl (lv_at hl 1 rfl) ?_
    refine lv_iconst (v := nI 5) hx hb dX0_isOutdated_22 (by decide) ?_
    refine lv_imul hx hb dX0_isOutdated_23 ?_
    refine lv_as (y := nI (w * 5)) (pk_mul _ _) ?_
    refine lv_iload_n hx hb dX0_isOutdated_24 rfl (lv_at hl 3 rfl) ?_
    refine lv_iadd hx hb dX0_isOutdated_25 ?_
    refine lv_as (y := nI ((w * 5) + i)) (nI_add _ _) ?_
    refine n_iald hx hb hK hP 7 0 rfl rfl (k := ((w * 5) + i)) (by omega) (Nat.le_of_ble_eq_true rfl) dX0_isOutdated_26 ?_
    refine lv_aload_n hx hb dX0_isOutdated_27 rfl (lv_at hl 0 rfl) ?_
    refine va_get (D := D) (ci := 0) (v := .ref (q 1)) (C := RX0) (T := TX0) (N := 10) hx hb hts hin hown hK hP 0 rfl rfl 0 (by decide) (hts (.fieldLink RX0 9 "SignRail" "shapes" "[I") (by decide +kernel)) (fun _ h9 => h9) rfl dX0_isOutdated_28 ?_
    refine lv_iload_n hx hb dX0_isOutdated_31 rfl (lv_at hl 2 rfl) ?_
    refine lv_iload_n hx hb dX0_isOutdated_32 rfl (lv_at hl 3 rfl) ?_
    refine k_callSi (As := [.int (nI (32768 * k + t)), .int (nI i)]) (rest := [.ref (q 1), .int (ct ((w * 5) + i))]) ⟨hx, hb, hml, hown, hts⟩ (c_X0_glyphAt l t k i (by omega) (by omega) (by omega)) (va_cwS 2 hts gX0_isOutdated_X0_glyphAt rfl rfl rfl (by decide +kernel) ⟨Nat.le_of_ble_eq_true rfl, Nat.le_of_ble_eq_true rfl⟩) k_bl_tt (fun _ _ _ => trivial) rfl hl.1 rfl (Nat.le_of_ble_eq_true rfl) dX0_isOutdated_33 ⟨Nat.zero_le _, Nat.zero_le _⟩ ?_
    refine n_iald hx hb hK hP 1 0 rfl rfl (k := (dg t i)) (dg_lt _ _) (Nat.le_of_ble_eq_true rfl) dX0_isOutdated_36 ?_
    refine lv_icmp_eq (tgt := 42) hx hb dX0_isOutdated_37 (by decide) (fun c_37 => ?_) (fun c_37 => ?_)
    · refine lv_iinc (v := nI (i + 1)) (lv' := [(3, .int (nI (i + 1))), (0, .ref (q 0)), (1, .int (nI w)), (2, .int (nI (32768 * k + t)))]) hx hb dX0_isOutdated_42 hl (k := 3) rfl (nI_inc _) (by decide) rfl (fun ls hl => ?_)
      refine lv_goto (tgt := 9) hx hb dX0_isOutdated_45 (by decide) ?_
      exact ih_9 _ (by omega) ⟨by rw [anyB, hf0_9]; simp [c_37], lv_sub hl [1, 2, 3, 0] rfl⟩
    · refine lv_iconst (v := nI 1) hx hb dX0_isOutdated_40 (by decide) ?_
      exact k_zret hx hb hr hlocks dX0_isOutdated_41 (by rw [anyB_t (i := i) (decide_eq_true c_37) (by omega)]; rfl)
set_option maxHeartbeats 4000000 in
set_option maxRecDepth 100000 in
theorem c_X0_nearestGlyph (l : Launch) (D : va_G) (cI : ClassId) (q : Nat → Nat) (sh sp ld nm tx ds ct : Nat → Int32) (co : Int64) (kg : Int32) (ks : Nat → Int32) (x : Int32) (b : Nat) (hb8 : b ≤ 8) (hsx : S25 x) (hsh : ∀ g, g < 8 → S25 (sh g)) : k_M l yX0_nearestGlyph wsX0_nearestGlyph ({ frames := 2, cells := 0, slots := 0, locals := 41 } : Room) [.ref (q 0), .int x, .int (ix b)] (k_B D (wx cI q sh sp ld nm tx ds ct co kg ks) [(cI, .int)]) (some (.int (nI (nrN (dS sh x) b 8)))) := by
  refine k_head (cc := cX0_nearestGlyph) (maxL := 5) (ret := some .int) [(0, .ref (q 0)), (1, .int x), (2, .int (ix b))] (by decide) rfl (Nat.le_of_ble_eq_true rfl) rfl ?_
  intro p e s m below meth c ls hx hb hr hml hown hts hlocks hname hB hl
  have hown : s.vm.findClass RX0 = some m.cls := hown
  obtain ⟨hP, hK⟩ := hB
  have hin : ∀ w ∈ wsX00, w ∈ wsX0_nearestGlyph := fun w h => List.mem_cons_of_mem _ (List.mem_append_right _ h)
  refine W.joinI (pc2 := 9) (st2 := []) (J := fun v => v = nI (nrS b)) (fun j9 => ?_) (fun v9 hv9 => ?_)
  · refine lv_iload_n hx hb dX0_nearestGlyph_0 rfl (lv_at hl 2 rfl) ?_
    refine lv_if_ne (tgt := 8) hx hb dX0_nearestGlyph_1 (by decide) (fun c_1 => ?_) (fun c_1 => ?_)
    · refine lv_iconst (v := nI 0) hx hb dX0_nearestGlyph_8 (by decide) ?_
      exact j9 _ (by rw [nrS, if_neg (fun q => c_1 ((ix_0 hb8).mpr q))])
    · refine lv_iconst (v := nI 1) hx hb dX0_nearestGlyph_4 (by decide) ?_
      refine lv_goto (tgt := 9) hx hb dX0_nearestGlyph_5 (by decide) ?_
      exact j9 _ (by rw [nrS, if_pos ((ix_0 hb8).mp c_1)])
  · subst hv9
    refine lv_istore_n (lv' := [(3, .int (nI (nrS b))), (0, .ref (q 0)), (1, .int x), (2, .int (ix b))]) hx hb dX0_nearestGlyph_9 rfl hl (by decide) rfl (fun ls hl => ?_)
    refine lv_iload_n hx hb dX0_nearestGlyph_10 rfl (lv_at hl 0 rfl) ?_
    refine lv_iconst (v := nI 1) hx hb dX0_nearestGlyph_11 (by decide) ?_
    refine lv_iadd hx hb dX0_nearestGlyph_12 ?_
    refine lv_as (y := nI ((nrS b) + 1)) (nI_add _ _) ?_
    refine lv_istore (lv' := [(4, .int (nI ((nrS b) + 1))), (3, .int (nI (nrS b))), (0, .ref (q 0)), (1, .int x), (2, .int (ix b))]) hx hb dX0_nearestGlyph_13 hl (by decide) rfl (fun ls hl => ?_)
    refine W.loop (fun i ls => ∃ (n : Nat), (n = nrN (dS sh x) b i) ∧ (n < 8) ∧ lv_has ls 5 [(0, .ref (q 0)), (1, .int x), (2, .int (ix b)), (3, .int (nI n)), (4, .int (nI i))]) (8) (nrS b + 1) (by unfold nrS; split <;> decide) ⟨nrS b, (nr_start _ _).symm, by unfold nrS; split <;> decide, lv_sub hl [2, 3, 4, 1, 0] rfl⟩ ?_
    intro i ls hi_15 hI_15 ih_15
    obtain ⟨n, hf0_15, hf1_15, hl⟩ := hI_15
    refine lv_iload hx hb dX0_nearestGlyph_15 (lv_at hl 4 rfl) ?_
    refine lv_bipush (v := nI 8) hx hb dX0_nearestGlyph_17 (by decide) ?_
    refine n_icmp_ge (tgt := 61) hx hb dX0_nearestGlyph_19 (by decide) (by omega) (by omega) (fun c_19 => ?_) (fun c_19 => ?_)
    · refine lv_iload_n hx hb dX0_nearestGlyph_61 rfl (lv_at hl 3 rfl) ?_
      exact k_iret hx hb hr hlocks dX0_nearestGlyph_62 (by rw [hf0_15, show i = 8 from by omega])
    · refine lv_iload hx hb dX0_nearestGlyph_22 (lv_at hl 4 rfl) ?_
      refine lv_iload_n hx hb dX0_nearestGlyph_24 rfl (lv_at hl 2 rfl) ?_
      refine lv_icmp_eq (tgt := 55) hx hb dX0_nearestGlyph_25 (by decide) (fun c_25 => ?_) (fun c_25 => ?_)
      · refine lv_iinc (v := nI (i + 1)) (lv' := [(4, .int (nI (i + 1))), (0, .ref (q 0)), (1, .int x), (2, .int (ix b)), (3, .int (nI n))]) hx hb dX0_nearestGlyph_55 hl (k := 4) rfl (nI_inc _) (by decide) rfl (fun ls hl => ?_)
        refine lv_goto (tgt := 15) hx hb dX0_nearestGlyph_58 (by decide) ?_
        exact ih_15 _ (by omega) ⟨n, by rw [nr_eq ((ix_eq hb8 c_19).mp c_25)]; exact hf0_15, hf1_15, lv_sub hl [1, 2, 3, 4, 0] rfl⟩
      · refine lv_iload_n hx hb dX0_nearestGlyph_28 rfl (lv_at hl 1 rfl) ?_
        refine lv_aload_n hx hb dX0_nearestGlyph_29 rfl (lv_at hl 0 rfl) ?_
        refine va_get (D := D) (ci := 0) (v := .ref (q 1)) (C := RX0) (T := TX0) (N := 10) hx hb hts hin hown hK hP 0 rfl rfl 0 (by decide) (hts (.fieldLink RX0 9 "SignRail" "shapes" "[I") (by decide +kernel)) (fun _ h9 => h9) rfl dX0_nearestGlyph_30 ?_
        refine lv_iload hx hb dX0_nearestGlyph_33 (lv_at hl 4 rfl) ?_
        refine n_iald hx hb hK hP 1 0 rfl rfl (k := i) (by omega) (Nat.le_of_ble_eq_true rfl) dX0_nearestGlyph_35 ?_
        refine k_callSi (As := [.int x, .int (sh i)]) (rest := []) ⟨hx, hb, hml, hown, hts⟩ (c_X0_differing l x (sh i) hsx (hsh _ (by omega))) (va_cwS 2 hts gX0_nearestGlyph_X0_differing rfl rfl rfl (by decide +kernel) ⟨Nat.le_of_ble_eq_true rfl, Nat.le_of_ble_eq_true rfl⟩) k_bl_tt (fun _ _ _ => trivial) rfl hl.1 rfl (Nat.le_of_ble_eq_true rfl) dX0_nearestGlyph_36 ⟨Nat.zero_le _, Nat.zero_le _⟩ ?_
        refine lv_iload_n hx hb dX0_nearestGlyph_39 rfl (lv_at hl 1 rfl) ?_
        refine lv_aload_n hx hb dX0_nearestGlyph_40 rfl (lv_at hl 0 rfl) ?_
        refine va_get (D := D) (ci := 0) (v := .ref (q 1)) (C := RX0) (T := TX0) (N := 10) hx hb hts hin hown hK hP 0 rfl rfl 0 (by decide) (hts (.fieldLink RX0 9 "SignRail" "shapes" "[I") (by decide +kernel)) (fun _ h9 => h9) rfl dX0_nearestGlyph_41 ?_
        refine lv_iload_n hx hb dX0_nearestGlyph_44 rfl (lv_at hl 3 rfl) ?_
        refine n_iald hx hb hK hP 1 0 rfl rfl (k := n) (by omega) (Nat.le_of_ble_eq_true rfl) dX0_nearestGlyph_45 ?_
        refine k_callSi (As := [.int x, .int (sh n)]) (rest := [.int (df x (sh i))]) ⟨hx, hb, hml, hown, hts⟩ (c_X0_differing l x (sh n) hsx (hsh _ (by omega))) (va_cwS 2 hts gX0_nearestGlyph_X0_differing rfl rfl rfl (by decide +kernel) ⟨Nat.le_of_ble_eq_true rfl, Nat.le_of_ble_eq_true rfl⟩) k_bl_tt (fun _ _ _ => trivial) rfl hl.1 rfl (Nat.le_of_ble_eq_true rfl) dX0_nearestGlyph_46 ⟨Nat.zero_le _, Nat.zero_le _⟩ ?_
        refine lv_icmp_ge (tgt := 55) hx hb dX0_nearestGlyph_49 (by decide) (fun c_49 => ?_) (fun c_49 => ?_)
        · refine lv_iinc (v := nI (i + 1)) (lv' := [(4, .int (nI (i + 1))), (0, .ref (q 0)), (1, .int x), (2, .int (ix b)), (3, .int (nI n))]) hx hb dX0_nearestGlyph_55 hl (k := 4) rfl (nI_inc _) (by decide) rfl (fun ls hl => ?_)
          refine lv_goto (tgt := 15) hx hb dX0_nearestGlyph_58 (by decide) ?_
          exact ih_15 _ (by omega) ⟨n, nr_ge hf0_15 hf1_15 (le_nlt c_49), hf1_15, lv_sub hl [1, 2, 3, 4, 0] rfl⟩
        · refine lv_iload hx hb dX0_nearestGlyph_52 (lv_at hl 4 rfl) ?_
          refine lv_istore_n (lv' := [(3, .int (nI i)), (0, .ref (q 0)), (1, .int x), (2, .int (ix b)), (4, .int (nI i))]) hx hb dX0_nearestGlyph_54 rfl hl (by decide) rfl (fun ls hl => ?_)
          refine lv_iinc (v := nI (i + 1)) (lv' := [(4, .int (nI (i + 1))), (3, .int (nI i)), (0, .ref (q 0)), (1, .int x), (2, .int (ix b))]) hx hb dX0_nearestGlyph_55 hl (k := 4) rfl (nI_inc _) (by decide) rfl (fun ls hl => ?_)
          refine lv_goto (tgt := 15) hx hb dX0_nearestGlyph_58 (by decide) ?_
          exact ih_15 _ (by omega) ⟨i, nr_lt (fun q => c_25 ((ix_eq hb8 c_19).mpr q)) hf0_15 (fa_of_nle c_49), c_19, lv_sub hl [2, 3, 4, 1, 0] rfl⟩
set_option maxHeartbeats 4000000 in
set_option maxRecDepth 100000 in
theorem c_X0_readGlyph (l : Launch) (D : va_G) (cI : ClassId) (q : Nat → Nat) (sh sp ld nm tx ds ct : Nat → Int32) (co : Int64) (kg : Int32) (ks : Nat → Int32) (x d0 : Int32) (hsx : S25 x) (hsh : ∀ g, g < 8 → S25 (sh g)) : k_M l yX0_readGlyph wsX0_readGlyph ({ frames := 3, cells := 0, slots := 0, locals := 65 } : Room) [.ref (q 0), .int x, .int d0] (k_B D (wx cI q sh sp ld nm tx ds ct co kg ks) [(cI, .int)]) (some (.int (nI (rdG (dS sh x) d0)))) := by
  refine k_head (cc := cX0_readGlyph) (maxL := 6) (ret := some .int) [(0, .ref (q 0)), (1, .int x), (2, .int d0)] (by decide) rfl (Nat.le_of_ble_eq_true rfl) rfl ?_
  intro p e s m below meth c ls hx hb hr hml hown hts hlocks hname hB hl
  have hown : s.vm.findClass RX0 = some m.cls := hown
  obtain ⟨hP, hK⟩ := hB
  have hin : ∀ w ∈ wsX00, w ∈ wsX0_readGlyph := fun w h => List.mem_cons_of_mem _ (List.mem_append_right _ h)
  refine lv_aload_n hx hb dX0_readGlyph_0 rfl (lv_at hl 0 rfl) ?_
  refine lv_iload_n hx hb dX0_readGlyph_1 rfl (lv_at hl 1 rfl) ?_
  refine lv_iconst (v := (-1)) hx hb dX0_readGlyph_2 (by decide) ?_
  refine k_callVi (As := [.int x, .int (-1)]) (rest := []) ⟨hx, hb, hml, hown, hts⟩ (c_X0_nearestGlyph l D cI q sh sp ld nm tx ds ct co kg ks x 8 (Nat.le_refl 8) hsx hsh) (cwV 2 hts gX0_readGlyph_X0_nearestGlyph rfl rfl rfl (by decide +kernel) ⟨Nat.le_of_ble_eq_true rfl, Nat.le_of_ble_eq_true rfl⟩) k_B_bl (k_B_of hP hK) (va_recv hK hP (ci := 0) (q0 := 0) rfl rfl) rfl hl.1 rfl (Nat.le_of_ble_eq_true rfl) dX0_readGlyph_3 ⟨Nat.zero_le _, Nat.zero_le _⟩ ?_
  refine lv_istore_n (lv' := [(3, .int (nI (nrN (dS sh x) 8 8))), (0, .ref (q 0)), (1, .int x), (2, .int d0)]) hx hb dX0_readGlyph_6 rfl hl (by decide) rfl (fun ls hl => ?_)
  refine lv_aload_n hx hb dX0_readGlyph_7 rfl (lv_at hl 1 rfl) ?_
  refine lv_iload_n hx hb dX0_readGlyph_8 rfl (lv_at hl 2 rfl) ?_
  refine lv_iload_n hx hb dX0_readGlyph_9 rfl (lv_at hl 0 rfl) ?_
  refine lv_as (y := ix (nrN (dS sh x) 8 8)) ((ix_lt (nr_lt8 _ _)).symm) ?_
  refine k_callVi (As := [.int x, .int (ix (nrN (dS sh x) 8 8))]) (rest := []) ⟨hx, hb, hml, hown, hts⟩ (c_X0_nearestGlyph l D cI q sh sp ld nm tx ds ct co kg ks x (nrN (dS sh x) 8 8) (Nat.le_of_lt (nr_lt8 _ _)) hsx hsh) (cwV 2 hts gX0_readGlyph_X0_nearestGlyph rfl rfl rfl (by decide +kernel) ⟨Nat.le_of_ble_eq_true rfl, Nat.le_of_ble_eq_true rfl⟩) k_B_bl (k_B_of hP hK) (va_recv hK hP (ci := 0) (q0 := 0) rfl rfl) rfl hl.1 rfl (Nat.le_of_ble_eq_true rfl) dX0_readGlyph_10 ⟨Nat.zero_le _, Nat.zero_le _⟩ ?_
  refine lv_istore (lv' := [(4, .int (nI (nrN (dS sh x) (nrN (dS sh x) 8 8) 8))), (3, .int (nI (nrN (dS sh x) 8 8))), (0, .ref (q 0)), (1, .int x), (2, .int d0)]) hx hb dX0_readGlyph_13 hl (by decide) rfl (fun ls hl => ?_)
  refine lv_iload_n hx hb dX0_readGlyph_15 rfl (lv_at hl 3 rfl) ?_
  refine lv_aload_n hx hb dX0_readGlyph_16 rfl (lv_at hl 2 rfl) ?_
  refine va_get (D := D) (ci := 0) (v := .ref (q 1)) (C := RX0) (T := TX0) (N := 10) hx hb hts hin hown hK hP 0 rfl rfl 0 (by decide) (hts (.fieldLink RX0 9 "SignRail" "shapes" "[I") (by decide +kernel)) (fun _ h9 => h9) rfl dX0_readGlyph_17 ?_
  refine lv_iload hx hb dX0_readGlyph_20 (lv_at hl 0 rfl) ?_
  refine n_iald hx hb hK hP 1 0 rfl rfl (k := (nrN (dS sh x) (nrN (dS sh x) 8 8) 8)) (nr_lt8 _ _) (Nat.le_of_ble_eq_true rfl) dX0_readGlyph_22 ?_
  refine k_callSi (As := [.int x, .int (sh (nrN (dS sh x) (nrN (dS sh x) 8 8) 8))]) (rest := []) ⟨hx, hb, hml, hown, hts⟩ (c_X0_differing l x (sh (nrN (dS sh x) (nrN (dS sh x) 8 8) 8)) hsx (hsh _ (nr_lt8 _ _))) (va_cwS 2 hts gX0_readGlyph_X0_differing rfl rfl rfl (by decide +kernel) ⟨Nat.le_of_ble_eq_true rfl, Nat.le_of_ble_eq_true rfl⟩) k_bl_tt (fun _ _ _ => trivial) rfl hl.1 rfl (Nat.le_of_ble_eq_true rfl) dX0_readGlyph_23 ⟨Nat.zero_le _, Nat.zero_le _⟩ ?_
  refine lv_iload_n hx hb dX0_readGlyph_26 rfl (lv_at hl 3 rfl) ?_
  refine lv_aload_n hx hb dX0_readGlyph_27 rfl (lv_at hl 2 rfl) ?_
  refine va_get (D := D) (ci := 0) (v := .ref (q 1)) (C := RX0) (T := TX0) (N := 10) hx hb hts hin hown hK hP 0 rfl rfl 0 (by decide) (hts (.fieldLink RX0 9 "SignRail" "shapes" "[I") (by decide +kernel)) (fun _ h9 => h9) rfl dX0_readGlyph_28 ?_
  refine lv_iload_n hx hb dX0_readGlyph_31 rfl (lv_at hl 1 rfl) ?_
  refine n_iald hx hb hK hP 1 0 rfl rfl (k := (nrN (dS sh x) 8 8)) (nr_lt8 _ _) (Nat.le_of_ble_eq_true rfl) dX0_readGlyph_32 ?_
  refine k_callSi (As := [.int x, .int (sh (nrN (dS sh x) 8 8))]) (rest := [.int (df x (sh (nrN (dS sh x) (nrN (dS sh x) 8 8) 8)))]) ⟨hx, hb, hml, hown, hts⟩ (c_X0_differing l x (sh (nrN (dS sh x) 8 8)) hsx (hsh _ (nr_lt8 _ _))) (va_cwS 2 hts gX0_readGlyph_X0_differing rfl rfl rfl (by decide +kernel) ⟨Nat.le_of_ble_eq_true rfl, Nat.le_of_ble_eq_true rfl⟩) k_bl_tt (fun _ _ _ => trivial) rfl hl.1 rfl (Nat.le_of_ble_eq_true rfl) dX0_readGlyph_33 ⟨Nat.zero_le _, Nat.zero_le _⟩ ?_
  refine lv_isub hx hb dX0_readGlyph_36 ?_
  refine lv_istore (lv' := [(5, .int ((df x (sh (nrN (dS sh x) (nrN (dS sh x) 8 8) 8))) - (df x (sh (nrN (dS sh x) 8 8))))), (4, .int (nI (nrN (dS sh x) (nrN (dS sh x) 8 8) 8))), (3, .int (nI (nrN (dS sh x) 8 8))), (0, .ref (q 0)), (1, .int x), (2, .int d0)]) hx hb dX0_readGlyph_37 hl (by decide) rfl (fun ls hl => ?_)
  refine lv_iload hx hb dX0_readGlyph_39 (lv_at hl 0 rfl) ?_
  refine lv_iload_n hx hb dX0_readGlyph_41 rfl (lv_at hl 5 rfl) ?_
  refine lv_icmp_lt (tgt := 49) hx hb dX0_readGlyph_42 (by decide) (fun c_42 => ?_) (fun c_42 => ?_)
  · refine lv_iload hx hb dX0_readGlyph_49 (lv_at hl 1 rfl) ?_
    exact k_iret hx hb hr hlocks dX0_readGlyph_51 (congrArg nI (if_pos c_42).symm)
  · refine lv_iload_n hx hb dX0_readGlyph_45 rfl (lv_at hl 2 rfl) ?_
    refine lv_goto (tgt := 51) hx hb dX0_readGlyph_46 (by decide) ?_
    exact k_iret hx hb hr hlocks dX0_readGlyph_51 (congrArg nI (if_neg c_42).symm)
set_option maxHeartbeats 4000000 in
set_option maxRecDepth 100000 in
theorem c_X0_readText (l : Launch) (D : va_G) (cI : ClassId) (q : Nat → Nat) (sh sp ld nm tx ds ct : Nat → Int32) (co : Int64) (kg : Int32) (ks : Nat → Int32) (w t k : Nat) (hw : w < 32) (ht : t < 32768) (hk : k ≤ 5) (htx : tx w = nI (32768 * k + t)) (hsh : ∀ g, g < 8 → S25 (sh g)) (hct : ∀ j, j < k → S25 (ct (w * 5 + j))) : k_M l yX0_readText wsX0_readText ({ frames := 4, cells := 0, slots := 0, locals := 90 } : Room) [.ref (q 0), .int (nI w)] (k_B D (wx cI q sh sp ld nm tx ds ct co kg ks) [(cI, .int)]) (some (.int (nI (32768 * k + rtN (rdS sh ct ds w) k)))) := by
  refine k_head (cc := cX0_readText) (maxL := 6) (ret := some .int) [(0, .ref (q 0)), (1, .int (nI w))] (by decide) rfl (Nat.le_of_ble_eq_true rfl) rfl ?_
  intro p e s m below meth c ls hx hb hr hml hown hts hlocks hname hB hl
  have hown : s.vm.findClass RX0 = some m.cls := hown
  obtain ⟨hP, hK⟩ := hB
  have hin : ∀ w ∈ wsX00, w ∈ wsX0_readText := fun w h => List.mem_cons_of_mem _ (List.mem_append_right _ h)
  refine lv_aload_n hx hb dX0_readText_0 rfl (lv_at hl 0 rfl) ?_
  refine va_get (D := D) (ci := 0) (v := .ref (q 5)) (C := RX0) (T := TX0) (N := 10) hx hb hts hin hown hK hP 0 rfl rfl 4 (by decide) (hts (.fieldLink RX0 22 "SignRail" "signTexts" "[I") (by decide +kernel)) (fun _ h9 => h9) rfl dX0_readText_1 ?_
  refine lv_iload_n hx hb dX0_readText_4 rfl (lv_at hl 1 rfl) ?_
  refine n_iald hx hb hK hP 5 0 rfl rfl (k := w) (by omega) (Nat.le_of_ble_eq_true rfl) dX0_readText_5 ?_
  refine lv_as (y := nI (32768 * k + t)) (htx) ?_
  refine k_callSi (As := [.int (nI (32768 * k + t))]) (rest := []) ⟨hx, hb, hml, hown, hts⟩ (c_X0_manyOf l t k (by omega) (by omega)) (va_cwS 1 hts gX0_readText_X0_manyOf rfl rfl rfl (by decide +kernel) ⟨Nat.le_of_ble_eq_true rfl, Nat.le_of_ble_eq_true rfl⟩) k_bl_tt (fun _ _ _ => trivial) rfl hl.1 rfl (Nat.le_of_ble_eq_true rfl) dX0_readText_6 ⟨Nat.zero_le _, Nat.zero_le _⟩ ?_
  refine lv_istore_n (lv' := [(2, .int (nI k)), (0, .ref (q 0)), (1, .int (nI w))]) hx hb dX0_readText_9 rfl hl (by decide) rfl (fun ls hl => ?_)
  refine lv_iconst (v := nI 0) hx hb dX0_readText_10 (by decide) ?_
  refine lv_istore_n (lv' := [(3, .int (nI 0)), (2, .int (nI k)), (0, .ref (q 0)), (1, .int (nI w))]) hx hb dX0_readText_11 rfl hl (by decide) rfl (fun ls hl => ?_)
  refine lv_iconst (v := nI 0) hx hb dX0_readText_12 (by decide) ?_
  refine lv_istore (lv' := [(4, .int (nI 0)), (3, .int (nI 0)), (2, .int (nI k)), (0, .ref (q 0)), (1, .int (nI w))]) hx hb dX0_readText_13 hl (by decide) rfl (fun ls hl => ?_)
  refine W.loop (fun i ls => lv_has ls 6 [(0, .ref (q 0)), (1, .int (nI w)), (2, .int (nI k)), (3, .int (nI (rtN (rdS sh ct ds w) i))), (4, .int (nI i))]) (k) (0) (by omega) (lv_sub hl [3, 4, 2, 1, 0] rfl) ?_
  intro i ls hi_15 hI_15 ih_15
  have hl := hI_15
  refine lv_iload hx hb dX0_readText_15 (lv_at hl 4 rfl) ?_
  refine lv_iload_n hx hb dX0_readText_17 rfl (lv_at hl 2 rfl) ?_
  refine n_icmp_ge (tgt := 60) hx hb dX0_readText_18 (by decide) (by omega) (by omega) (fun c_18 => ?_) (fun c_18 => ?_)
  · have hrt := rtN_lt (r := rdS sh ct ds w) (fun _ => rdG_lt _ _) i
    have hp8 := p8_le (k := i) (by omega)
    refine lv_iload_n hx hb dX0_readText_60 rfl (lv_at hl 3 rfl) ?_
    refine lv_iload_n hx hb dX0_readText_61 rfl (lv_at hl 2 rfl) ?_
    refine k_callSi (As := [.int (nI (rtN (rdS sh ct ds w) i)), .int (nI k)]) (rest := []) ⟨hx, hb, hml, hown, hts⟩ (c_X0_pack l (rtN (rdS sh ct ds w) i) k (by omega) (by omega)) (va_cwS 2 hts gX0_readText_X0_pack rfl rfl rfl (by decide +kernel) ⟨Nat.le_of_ble_eq_true rfl, Nat.le_of_ble_eq_true rfl⟩) k_bl_tt (fun _ _ _ => trivial) rfl hl.1 rfl (Nat.le_of_ble_eq_true rfl) dX0_readText_62 ⟨Nat.zero_le _, Nat.zero_le _⟩ ?_
    exact k_iret hx hb hr hlocks dX0_readText_65 (by rw [show i = k from by omega])
  · refine lv_aload_n hx hb dX0_readText_21 rfl (lv_at hl 0 rfl) ?_
    refine lv_aload_n hx hb dX0_readText_22 rfl (lv_at hl 0 rfl) ?_
    refine va_get (D := D) (ci := 0) (v := .ref (q 7)) (C := RX0) (T := TX0) (N := 10) hx hb hts hin hown hK hP 0 rfl rfl 6 (by decide) (hts (.fieldLink RX0 28 "SignRail" "signShapes" "[I") (by decide +kernel)) (fun _ h9 => h9) rfl dX0_readText_23 ?_
    refine lv_iload_n hx hb dX0_readText_26 rfl (lv_at hl 1 rfl) ?_
    refine lv_iconst (v := nI 5) hx hb dX0_readText_27 (by decide) ?_
    refine lv_imul hx hb dX0_readText_28 ?_
    refine lv_as (y := nI (w * 5)) (pk_mul _ _) ?_
    refine lv_iload hx hb dX0_readText_29 (lv_at hl 4 rfl) ?_
    refine lv_iadd hx hb dX0_readText_31 ?_
    refine lv_as (y := nI ((w * 5) + i)) (nI_add _ _) ?_
    refine n_iald hx hb hK hP 7 0 rfl rfl (k := ((w * 5) + i)) (by omega) (Nat.le_of_ble_eq_true rfl) dX0_readText_32 ?_
    refine lv_aload_n hx hb dX0_readText_33 rfl (lv_at hl 0 rfl) ?_
    refine va_get (D := D) (ci := 0) (v := .ref (q 6)) (C := RX0) (T := TX0) (N := 10) hx hb hts hin hown hK hP 0 rfl rfl 5 (by decide) (hts (.fieldLink RX0 25 "SignRail" "signDistances" "[I") (by decide +kernel)) (fun _ h9 => h9) rfl dX0_readText_34 ?_
    refine lv_iload_n hx hb dX0_readText_37 rfl (lv_at hl 1 rfl) ?_
    refine n_iald hx hb hK hP 6 0 rfl rfl (k := w) (by omega) (Nat.le_of_ble_eq_true rfl) dX0_readText_38 ?_
    refine k_callVi (As := [.int (ct ((w * 5) + i)), .int (ds w)]) (rest := []) ⟨hx, hb, hml, hown, hts⟩ (c_X0_readGlyph l D cI q sh sp ld nm tx ds ct co kg ks (ct ((w * 5) + i)) (ds w) (hct i (by omega)) hsh) (cwV 2 hts gX0_readText_X0_readGlyph rfl rfl rfl (by decide +kernel) ⟨Nat.le_of_ble_eq_true rfl, Nat.le_of_ble_eq_true rfl⟩) k_B_bl (k_B_of hP hK) (va_recv hK hP (ci := 0) (q0 := 0) rfl rfl) rfl hl.1 rfl (Nat.le_of_ble_eq_true rfl) dX0_readText_39 ⟨Nat.zero_le _, Nat.zero_le _⟩ ?_
    refine lv_istore (lv' := [(5, .int (nI (rdG (dS sh (ct ((w * 5) + i))) (ds w)))), (0, .ref (q 0)), (1, .int (nI w)), (2, .int (nI k)), (3, .int (nI (rtN (rdS sh ct ds w) i))), (4, .int (nI i))]) hx hb dX0_readText_42 hl (by decide) rfl (fun ls hl => ?_)
    refine lv_iload_n hx hb dX0_readText_44 rfl (lv_at hl 4 rfl) ?_
    refine lv_iload hx hb dX0_readText_45 (lv_at hl 0 rfl) ?_
    refine lv_iconst (v := nI 3) hx hb dX0_readText_47 (by decide) ?_
    refine lv_iload hx hb dX0_readText_48 (lv_at hl 5 rfl) ?_
    refine lv_imul hx hb dX0_readText_50 ?_
    refine lv_as (y := nI (3 * i)) (pk_mul _ _) ?_
    refine lv_ishl hx hb dX0_readText_51 ?_
    refine lv_ior hx hb dX0_readText_52 ?_
    refine lv_as (y := nI (rtN (rdS sh ct ds w) (i + 1))) (rt_or (rtN_lt (fun _ => rdG_lt _ _) _) (rdG_lt _ _) (by omega)) ?_
    refine lv_istore_n (lv' := [(3, .int (nI (rtN (rdS sh ct ds w) (i + 1)))), (5, .int (nI (rdG (dS sh (ct ((w * 5) + i))) (ds w)))), (0, .ref (q 0)), (1, .int (nI w)), (2, .int (nI k)), (4, .int (nI i))]) hx hb dX0_readText_53 rfl hl (by decide) rfl (fun ls hl => ?_)
    refine lv_iinc (v := nI (i + 1)) (lv' := [(4, .int (nI (i + 1))), (3, .int (nI (rtN (rdS sh ct ds w) (i + 1)))), (5, .int (nI (rdG (dS sh (ct ((w * 5) + i))) (ds w)))), (0, .ref (q 0)), (1, .int (nI w)), (2, .int (nI k))]) hx hb dX0_readText_54 hl (k := 5) rfl (nI_inc _) (by decide) rfl (fun ls hl => ?_)
    refine lv_goto (tgt := 15) hx hb dX0_readText_57 (by decide) ?_
    exact ih_15 _ (by omega) (lv_sub hl [3, 4, 5, 1, 0] rfl)
set_option maxHeartbeats 4000000 in
set_option maxRecDepth 100000 in
theorem c_X0_nextWay (l : Launch) (D : va_G) (cI : ClassId) (q : Nat → Nat) (sh sp ld nm tx ds ct : Nat → Int32) (co : Int64) (kg : Int32) (ks : Nat → Int32) (p0 : Nat) (hp : p0 < 8) (gt gk : Nat) (hgt : gt < 32768) (hgk : gk ≤ 5) (tki : Int32) (tk : Nat → Bool) (hTk : tkR tki tk) (T K Ld : Nat → Nat) (hS : ∀ w, w < 32 → T w < 32768 ∧ K w ≤ 5 ∧ tx w = nI (32768 * K w + T w) ∧ ∀ j, j < K w → S25 (ct (w * 5 + j))) (hL : ∀ w, w < 32 → Ld w ≤ 8 ∧ ld w = ix (Ld w)) (hsh : ∀ g, g < 8 → S25 (sh g)) : k_M l yX0_nextWay wsX0_nextWay ({ frames := 5, cells := 0, slots := 0, locals := 115 } : Room) [.ref (q 0), .int (nI p0), .int (nI (32768 * gk + gt)), .int tki] (k_B D (wx cI q sh sp ld nm tx ds ct co kg ks) [(cI, .int)]) (some (.int (wv p0 (nx (toldC sh ct ds K gk gt) Ld tk p0)))) := by
  refine k_head (cc := cX0_nextWay) (maxL := 7) (ret := some .int) [(0, .ref (q 0)), (1, .int (nI p0)), (2, .int (nI (32768 * gk + gt))), (3, .int tki)] (by decide) rfl (Nat.le_of_ble_eq_true rfl) rfl ?_
  intro p e s m below meth c ls hx hb hr hml hown hts hlocks hname hB hl
  have hown : s.vm.findClass RX0 = some m.cls := hown
  obtain ⟨hP, hK⟩ := hB
  have hin : ∀ w ∈ wsX00, w ∈ wsX0_nextWay := fun w h => List.mem_cons_of_mem _ (List.mem_append_right _ h)
  refine lv_iconst (v := (-1)) hx hb dX0_nextWay_0 (by decide) ?_
  refine lv_istore (lv' := [(4, .int (-1)), (0, .ref (q 0)), (1, .int (nI p0)), (2, .int (nI (32768 * gk + gt))), (3, .int tki)]) hx hb dX0_nextWay_1 hl (by decide) rfl (fun ls hl => ?_)
  refine lv_iconst (v := nI 0) hx hb dX0_nextWay_3 (by decide) ?_
  refine lv_istore (lv' := [(5, .int (nI 0)), (4, .int (-1)), (0, .ref (q 0)), (1, .int (nI p0)), (2, .int (nI (32768 * gk + gt))), (3, .int tki)]) hx hb dX0_nextWay_4 hl (by decide) rfl (fun ls hl => ?_)
  refine W.loop (fun i ls => ∃ (u : Int32), (fb (fun e => decide (Ld (4 * p0 + e) ≠ 8) && (toldC sh ct ds K gk gt) (4 * p0 + e)) i = 4) ∧ (u = wv p0 (fb (fun e => decide (Ld (4 * p0 + e) ≠ 8) && !tk (4 * p0 + e)) i)) ∧ lv_has ls 7 [(0, .ref (q 0)), (1, .int (nI p0)), (2, .int (nI (32768 * gk + gt))), (3, .int tki), (4, .int u), (5, .int (nI i))]) (4) (0) (by omega) ⟨(-1), rfl, rfl, lv_sub hl [2, 3, 4, 5, 1, 0] rfl⟩ ?_
  intro i ls hi_6 hI_6 ih_6
  obtain ⟨u, hf0_6, hf1_6, hl⟩ := hI_6
  refine lv_iload hx hb dX0_nextWay_6 (lv_at hl 5 rfl) ?_
  refine lv_iconst (v := nI 4) hx hb dX0_nextWay_8 (by decide) ?_
  refine n_icmp_ge (tgt := 69) hx hb dX0_nextWay_9 (by decide) (by omega) (by omega) (fun c_9 => ?_) (fun c_9 => ?_)
  · refine lv_iload hx hb dX0_nextWay_69 (lv_at hl 4 rfl) ?_
    exact k_iret hx hb hr hlocks dX0_nextWay_71 (by rw [show i = 4 from by omega] at hf0_6 hf1_6; rw [nx, nx_n hf0_6]; exact hf1_6)
  · refine lv_iload_n hx hb dX0_nextWay_12 rfl (lv_at hl 1 rfl) ?_
    refine lv_iload hx hb dX0_nextWay_13 (lv_at hl 5 rfl) ?_
    refine k_callSi (As := [.int (nI p0), .int (nI i)]) (rest := []) ⟨hx, hb, hml, hown, hts⟩ (c_X0_wayOf l p0 i) (va_cwS 2 hts gX0_nextWay_X0_wayOf rfl rfl rfl (by decide +kernel) ⟨Nat.le_of_ble_eq_true rfl, Nat.le_of_ble_eq_true rfl⟩) k_bl_tt (fun _ _ _ => trivial) rfl hl.1 rfl (Nat.le_of_ble_eq_true rfl) dX0_nextWay_15 ⟨Nat.zero_le _, Nat.zero_le _⟩ ?_
    refine lv_as (y := nI (4 * p0 + i)) (by rw [Nat.mul_comm p0 4]) ?_
    refine lv_istore (lv' := [(6, .int (nI (4 * p0 + i))), (0, .ref (q 0)), (1, .int (nI p0)), (2, .int (nI (32768 * gk + gt))), (3, .int tki), (4, .int u), (5, .int (nI i))]) hx hb dX0_nextWay_18 hl (by decide) rfl (fun ls hl => ?_)
    refine lv_aload_n hx hb dX0_nextWay_20 rfl (lv_at hl 1 rfl) ?_
    refine va_get (D := D) (ci := 0) (v := .ref (q 3)) (C := RX0) (T := TX0) (N := 10) hx hb hts hin hown hK hP 0 rfl rfl 2 (by decide) (hts (.fieldLink RX0 16 "SignRail" "leads" "[I") (by decide +kernel)) (fun _ h9 => h9) rfl dX0_nextWay_21 ?_
    refine lv_iload hx hb dX0_nextWay_24 (lv_at hl 0 rfl) ?_
    refine n_iald hx hb hK hP 3 0 rfl rfl (k := (4 * p0 + i)) (by omega) (Nat.le_of_ble_eq_true rfl) dX0_nextWay_26 ?_
    refine lv_as (y := ix (Ld (4 * p0 + i))) ((hL _ (by omega)).2) ?_
    refine lv_iconst (v := (-1)) hx hb dX0_nextWay_27 (by decide) ?_
    refine lv_icmp_eq (tgt := 63) hx hb dX0_nextWay_28 (by decide) (fun c_28 => ?_) (fun c_28 => ?_)
    · have hl8 := (ix_m1 (hL _ (by omega)).1).mp c_28
      refine lv_iinc (v := nI (i + 1)) (lv' := [(5, .int (nI (i + 1))), (6, .int (nI (4 * p0 + i))), (0, .ref (q 0)), (1, .int (nI p0)), (2, .int (nI (32768 * gk + gt))), (3, .int tki), (4, .int u)]) hx hb dX0_nextWay_63 hl (k := 6) rfl (nI_inc _) (by decide) rfl (fun ls hl => ?_)
      refine lv_goto (tgt := 6) hx hb dX0_nextWay_66 (by decide) ?_
      exact ih_6 _ (by omega) ⟨u, by rw [fb_f (by simp [hl8])]; exact hf0_6, by rw [fb_f (by simp [hl8])]; exact hf1_6, lv_sub hl [2, 3, 4, 5, 6, 0] rfl⟩
    · have hl8 : Ld (4 * p0 + i) ≠ 8 := fun q => c_28 ((ix_m1 (hL _ (by omega)).1).mpr q)
      refine lv_aload_n hx hb dX0_nextWay_31 rfl (lv_at hl 1 rfl) ?_
      refine lv_iload hx hb dX0_nextWay_32 (lv_at hl 0 rfl) ?_
      refine k_callVi (As := [.int (nI (4 * p0 + i))]) (rest := []) ⟨hx, hb, hml, hown, hts⟩ (c_X0_readText l D cI q sh sp ld nm tx ds ct co kg ks (4 * p0 + i) (T (4 * p0 + i)) (K (4 * p0 + i)) (by omega) (hS _ (by omega)).1 (hS _ (by omega)).2.1 (hS _ (by omega)).2.2.1 hsh (hS _ (by omega)).2.2.2) (cwV 1 hts gX0_nextWay_X0_readText rfl rfl rfl (by decide +kernel) ⟨Nat.le_of_ble_eq_true rfl, Nat.le_of_ble_eq_true rfl⟩) k_B_bl (k_B_of hP hK) (va_recv hK hP (ci := 0) (q0 := 0) rfl rfl) rfl hl.1 rfl (Nat.le_of_ble_eq_true rfl) dX0_nextWay_34 ⟨Nat.zero_le _, Nat.zero_le _⟩ ?_
      have hk5 := (hS (4 * p0 + i) (by omega)).2.1
      have hrt := rtN_lt (r := rdS sh ct ds (4 * p0 + i)) (fun _ => rdG_lt _ _) (K (4 * p0 + i))
      have hp8 := p8_le (k := K (4 * p0 + i)) hk5
      refine lv_iload_n hx hb dX0_nextWay_37 rfl (lv_at hl 3 rfl) ?_
      refine n_icmp_ne (tgt := 44) hx hb dX0_nextWay_38 (by decide) (by omega) (by omega) (fun c_38 => ?_) (fun c_38 => ?_)
      · have c_38 : rdas sh ct ds (4 * p0 + i) (K (4 * p0 + i)) gk gt = false := decide_eq_false (fun q => c_38 (by have h1 := q.1; have h2 := q.2; omega))
        refine lv_iload hx hb dX0_nextWay_44 (lv_at hl 5 rfl) ?_
        refine lv_iconst (v := (-1)) hx hb dX0_nextWay_46 (by decide) ?_
        refine lv_icmp_ne (tgt := 63) hx hb dX0_nextWay_47 (by decide) (fun c_47 => ?_) (fun c_47 => ?_)
        · refine lv_iinc (v := nI (i + 1)) (lv' := [(5, .int (nI (i + 1))), (6, .int (nI (4 * p0 + i))), (0, .ref (q 0)), (1, .int (nI p0)), (2, .int (nI (32768 * gk + gt))), (3, .int tki), (4, .int u)]) hx hb dX0_nextWay_63 hl (k := 6) rfl (nI_inc _) (by decide) rfl (fun ls hl => ?_)
          refine lv_goto (tgt := 6) hx hb dX0_nextWay_66 (by decide) ?_
          exact ih_6 _ (by omega) ⟨u, by rw [fb_f (by simp [c_38])]; exact hf0_6, by rw [fb_n (fun q => c_47 (by rw [hf1_6, q]; rfl))]; exact hf1_6, lv_sub hl [2, 3, 4, 5, 6, 0] rfl⟩
        · refine lv_iload_n hx hb dX0_nextWay_50 rfl (lv_at hl 4 rfl) ?_
          refine lv_iconst (v := nI 1) hx hb dX0_nextWay_51 (by decide) ?_
          refine lv_iload hx hb dX0_nextWay_52 (lv_at hl 0 rfl) ?_
          refine lv_ishl hx hb dX0_nextWay_54 ?_
          refine lv_iand hx hb dX0_nextWay_55 ?_
          refine lv_if_ne (tgt := 63) hx hb dX0_nextWay_56 (by decide) (fun c_56 => ?_) (fun c_56 => ?_)
          · refine lv_iinc (v := nI (i + 1)) (lv' := [(5, .int (nI (i + 1))), (6, .int (nI (4 * p0 + i))), (0, .ref (q 0)), (1, .int (nI p0)), (2, .int (nI (32768 * gk + gt))), (3, .int tki), (4, .int u)]) hx hb dX0_nextWay_63 hl (k := 6) rfl (nI_inc _) (by decide) rfl (fun ls hl => ?_)
            refine lv_goto (tgt := 6) hx hb dX0_nextWay_66 (by decide) ?_
            exact ih_6 _ (by omega) ⟨u, by rw [fb_f (by simp [c_38])]; exact hf0_6, by rw [fb_f (by simp [ts_nf (fun q => c_56 ((hTk _ (by omega)).mpr q))])]; exact hf1_6, lv_sub hl [2, 3, 4, 5, 6, 0] rfl⟩
          · refine lv_iload hx hb dX0_nextWay_59 (lv_at hl 0 rfl) ?_
            refine lv_istore (lv' := [(4, .int (nI (4 * p0 + i))), (6, .int (nI (4 * p0 + i))), (0, .ref (q 0)), (1, .int (nI p0)), (2, .int (nI (32768 * gk + gt))), (3, .int tki), (5, .int (nI i))]) hx hb dX0_nextWay_61 hl (by decide) rfl (fun ls hl => ?_)
            refine lv_iinc (v := nI (i + 1)) (lv' := [(5, .int (nI (i + 1))), (4, .int (nI (4 * p0 + i))), (6, .int (nI (4 * p0 + i))), (0, .ref (q 0)), (1, .int (nI p0)), (2, .int (nI (32768 * gk + gt))), (3, .int tki)]) hx hb dX0_nextWay_63 hl (k := 6) rfl (nI_inc _) (by decide) rfl (fun ls hl => ?_)
            refine lv_goto (tgt := 6) hx hb dX0_nextWay_66 (by decide) ?_
            exact ih_6 _ (by omega) ⟨nI (4 * p0 + i), by rw [fb_f (by simp [c_38])]; exact hf0_6, by rw [fb_t ((wv_m1 hp (by rcases fb_le (fun e => decide (Ld (4 * p0 + e) ≠ 8) && !tk (4 * p0 + e)) i (by omega) with q | q <;> omega)).mp (by rw [← hf1_6]; exact c_47)) (by simp [hl8, (hTk _ (by omega)).mp c_56])]; exact (wv_lt c_9).symm, lv_sub hl [3, 4, 5, 6, 1, 0] rfl⟩
      · have c_38 : rdas sh ct ds (4 * p0 + i) (K (4 * p0 + i)) gk gt = true := decide_eq_true ⟨by omega, by omega⟩
        refine lv_iload hx hb dX0_nextWay_41 (lv_at hl 0 rfl) ?_
        exact k_iret hx hb hr hlocks dX0_nextWay_43 (by rw [nx, nx_t hf0_6 (by simp [hl8, c_38]) c_9, wv_lt c_9])
set_option maxHeartbeats 4000000 in
set_option maxRecDepth 100000 in
theorem c_X0_stepsToArrive (l : Launch) (D : va_G) (cI : ClassId) (q : Nat → Nat) (sh sp ld nm tx ds ct : Nat → Int32) (co : Int64) (kg : Int32) (ks : Nat → Int32) (p1 : Nat) (hp : p1 < 8) (gt gk : Nat) (hgt : gt < 32768) (hgk : gk ≤ 5) (T K Ld : Nat → Nat) (hS : ∀ w, w < 32 → T w < 32768 ∧ K w ≤ 5 ∧ tx w = nI (32768 * K w + T w) ∧ ∀ j, j < K w → S25 (ct (w * 5 + j))) (hL : ∀ w, w < 32 → Ld w ≤ 8 ∧ ld w = ix (Ld w)) (hsh : ∀ g, g < 8 → S25 (sh g)) (NT NK : Nat → Nat) (hN : ∀ p, p < 8 → NT p < 32768 ∧ NK p ≤ 5 ∧ nm p = nI (32768 * NK p + NT p)) : k_M l yX0_stepsToArrive wsX0_stepsToArrive ({ frames := 6, cells := 0, slots := 0, locals := 141 } : Room) [.ref (q 0), .int (nI p1), .int (nI (32768 * gk + gt))] (k_B D (wx cI q sh sp ld nm tx ds ct co kg ks) [(cI, .int)]) (some (.int (sa (toldC sh ct ds K gk gt) Ld (arrC NK NT gk gt) 31 0 p1 tk0))) := by
  refine k_head (cc := cX0_stepsToArrive) (maxL := 7) (ret := some .int) [(0, .ref (q 0)), (1, .int (nI p1)), (2, .int (nI (32768 * gk + gt)))] (by decide) rfl (Nat.le_of_ble_eq_true rfl) rfl ?_
  intro p e s m below meth c ls hx hb hr hml hown hts hlocks hname hB hl
  have hown : s.vm.findClass RX0 = some m.cls := hown
  obtain ⟨hP, hK⟩ := hB
  have hin : ∀ w ∈ wsX00, w ∈ wsX0_stepsToArrive := fun w h => List.mem_cons_of_mem _ (List.mem_append_right _ h)
  refine lv_iload_n hx hb dX0_stepsToArrive_0 rfl (lv_at hl 1 rfl) ?_
  refine lv_istore_n (lv' := [(3, .int (nI p1)), (0, .ref (q 0)), (1, .int (nI p1)), (2, .int (nI (32768 * gk + gt)))]) hx hb dX0_stepsToArrive_1 rfl hl (by decide) rfl (fun ls hl => ?_)
  refine lv_iconst (v := nI 0) hx hb dX0_stepsToArrive_2 (by decide) ?_
  refine lv_istore (lv' := [(4, .int (nI 0)), (3, .int (nI p1)), (0, .ref (q 0)), (1, .int (nI p1)), (2, .int (nI (32768 * gk + gt)))]) hx hb dX0_stepsToArrive_3 hl (by decide) rfl (fun ls hl => ?_)
  refine lv_iconst (v := nI 0) hx hb dX0_stepsToArrive_5 (by decide) ?_
  refine lv_istore (lv' := [(5, .int (nI 0)), (4, .int (nI 0)), (3, .int (nI p1)), (0, .ref (q 0)), (1, .int (nI p1)), (2, .int (nI (32768 * gk + gt)))]) hx hb dX0_stepsToArrive_6 hl (by decide) rfl (fun ls hl => ?_)
  refine W.loop (fun i ls => ∃ (pl1 : Nat) (tki : Int32) (tk : Nat → Bool), (pl1 < 8) ∧ (tkR tki tk) ∧ (sa (toldC sh ct ds K gk gt) Ld (arrC NK NT gk gt) (31 - i) i pl1 tk = sa (toldC sh ct ds K gk gt) Ld (arrC NK NT gk gt) 31 0 p1 tk0) ∧ lv_has ls 7 [(0, .ref (q 0)), (1, .int (nI p1)), (2, .int (nI (32768 * gk + gt))), (3, .int (nI pl1)), (4, .int tki), (5, .int (nI i))]) (31) (0) (by omega) ⟨p1, nI 0, tk0, hp, tkR_0, rfl, lv_sub hl [3, 4, 5, 2, 1, 0] rfl⟩ ?_
  intro i ls hi_8 hI_8 ih_8
  obtain ⟨pl1, tki, tk, hf0_8, hf1_8, hf2_8, hl⟩ := hI_8
  refine lv_iload hx hb dX0_stepsToArrive_8 (lv_at hl 5 rfl) ?_
  refine lv_bipush (v := nI 30) hx hb dX0_stepsToArrive_10 (by decide) ?_
  refine n_icmp_gt (tgt := 69) hx hb dX0_stepsToArrive_12 (by decide) (by omega) (by omega) (fun c_12 => ?_) (fun c_12 => ?_)
  · refine lv_iconst (v := (-1)) hx hb dX0_stepsToArrive_69 (by decide) ?_
    exact k_iret hx hb hr hlocks dX0_stepsToArrive_70 (by rw [← hf2_8, show 31 - i = 0 from by omega]; rfl)
  · have hn1 := hN pl1 hf0_8
    refine lv_aload_n hx hb dX0_stepsToArrive_15 rfl (lv_at hl 0 rfl) ?_
    refine va_get (D := D) (ci := 0) (v := .ref (q 4)) (C := RX0) (T := TX0) (N := 10) hx hb hts hin hown hK hP 0 rfl rfl 3 (by decide) (hts (.fieldLink RX0 19 "SignRail" "names" "[I") (by decide +kernel)) (fun _ h9 => h9) rfl dX0_stepsToArrive_16 ?_
    refine lv_iload_n hx hb dX0_stepsToArrive_19 rfl (lv_at hl 3 rfl) ?_
    refine n_iald hx hb hK hP 4 0 rfl rfl (k := pl1) (by omega) (Nat.le_of_ble_eq_true rfl) dX0_stepsToArrive_20 ?_
    refine lv_as (y := nI (32768 * (NK pl1) + (NT pl1))) (hn1.2.2) ?_
    refine lv_iload_n hx hb dX0_stepsToArrive_21 rfl (lv_at hl 2 rfl) ?_
    refine n_icmp_ne (tgt := 28) hx hb dX0_stepsToArrive_22 (by decide) (by omega) (by omega) (fun c_22 => ?_) (fun c_22 => ?_)
    · refine lv_aload_n hx hb dX0_stepsToArrive_28 rfl (lv_at hl 0 rfl) ?_
      refine lv_iload_n hx hb dX0_stepsToArrive_29 rfl (lv_at hl 3 rfl) ?_
      refine lv_iload_n hx hb dX0_stepsToArrive_30 rfl (lv_at hl 2 rfl) ?_
      refine lv_iload hx hb dX0_stepsToArrive_31 (lv_at hl 4 rfl) ?_
      refine k_callVi (As := [.int (nI pl1), .int (nI (32768 * gk + gt)), .int tki]) (rest := []) ⟨hx, hb, hml, hown, hts⟩ (c_X0_nextWay l D cI q sh sp ld nm tx ds ct co kg ks pl1 hf0_8 gt gk hgt hgk tki tk hf1_8 T K Ld hS hL hsh) (cwV 3 hts gX0_stepsToArrive_X0_nextWay rfl rfl rfl (by decide +kernel) ⟨Nat.le_of_ble_eq_true rfl, Nat.le_of_ble_eq_true rfl⟩) k_B_bl (k_B_of hP hK) (va_recv hK hP (ci := 0) (q0 := 0) rfl rfl) rfl hl.1 rfl (Nat.le_of_ble_eq_true rfl) dX0_stepsToArrive_33 ⟨Nat.zero_le _, Nat.zero_le _⟩ ?_
      refine lv_istore (lv' := [(6, .int (wv pl1 (nx (toldC sh ct ds K gk gt) Ld tk pl1))), (0, .ref (q 0)), (1, .int (nI p1)), (2, .int (nI (32768 * gk + gt))), (3, .int (nI pl1)), (4, .int tki), (5, .int (nI i))]) hx hb dX0_stepsToArrive_36 hl (by decide) rfl (fun ls hl => ?_)
      refine lv_iload hx hb dX0_stepsToArrive_38 (lv_at hl 0 rfl) ?_
      refine lv_iconst (v := (-1)) hx hb dX0_stepsToArrive_40 (by decide) ?_
      refine lv_icmp_ne (tgt := 46) hx hb dX0_stepsToArrive_41 (by decide) (fun c_41 => ?_) (fun c_41 => ?_)
      · have hnx : nx (toldC sh ct ds K gk gt) Ld tk pl1 < 4 ∧ Ld (4 * pl1 + nx (toldC sh ct ds K gk gt) Ld tk pl1) ≠ 8 := nx_lt.resolve_left (fun q => c_41 (by rw [q]; rfl))
        rw [wv_lt hnx.1] at hl
        generalize hne : nx (toldC sh ct ds K gk gt) Ld tk pl1 = ne at hl hnx
        have hle := (hL (4 * pl1 + ne) (by omega)).1
        refine lv_iload hx hb dX0_stepsToArrive_46 (lv_at hl 5 rfl) ?_
        refine lv_iconst (v := nI 1) hx hb dX0_stepsToArrive_48 (by decide) ?_
        refine lv_iload hx hb dX0_stepsToArrive_49 (lv_at hl 0 rfl) ?_
        refine lv_ishl hx hb dX0_stepsToArrive_51 ?_
        refine lv_ior hx hb dX0_stepsToArrive_52 ?_
        refine lv_istore (lv' := [(4, .int (tki ||| ((nI 1) <<< ((nI (4 * pl1 + ne)) &&& 31)))), (6, .int (nI (4 * pl1 + ne))), (0, .ref (q 0)), (1, .int (nI p1)), (2, .int (nI (32768 * gk + gt))), (3, .int (nI pl1)), (5, .int (nI i))]) hx hb dX0_stepsToArrive_53 hl (by decide) rfl (fun ls hl => ?_)
        refine lv_aload_n hx hb dX0_stepsToArrive_55 rfl (lv_at hl 2 rfl) ?_
        refine va_get (D := D) (ci := 0) (v := .ref (q 3)) (C := RX0) (T := TX0) (N := 10) hx hb hts hin hown hK hP 0 rfl rfl 2 (by decide) (hts (.fieldLink RX0 16 "SignRail" "leads" "[I") (by decide +kernel)) (fun _ h9 => h9) rfl dX0_stepsToArrive_56 ?_
        refine lv_iload hx hb dX0_stepsToArrive_59 (lv_at hl 1 rfl) ?_
        refine n_iald hx hb hK hP 3 0 rfl rfl (k := (4 * pl1 + ne)) (by omega) (Nat.le_of_ble_eq_true rfl) dX0_stepsToArrive_61 ?_
        refine lv_as (y := nI (Ld (4 * pl1 + ne))) (((hL _ (by omega)).2).trans (ix_lt (by have := hnx.2; omega))) ?_
        refine lv_istore_n (lv' := [(3, .int (nI (Ld (4 * pl1 + ne)))), (4, .int (tki ||| ((nI 1) <<< ((nI (4 * pl1 + ne)) &&& 31)))), (6, .int (nI (4 * pl1 + ne))), (0, .ref (q 0)), (1, .int (nI p1)), (2, .int (nI (32768 * gk + gt))), (5, .int (nI i))]) hx hb dX0_stepsToArrive_62 rfl hl (by decide) rfl (fun ls hl => ?_)
        refine lv_iinc (v := nI (i + 1)) (lv' := [(5, .int (nI (i + 1))), (3, .int (nI (Ld (4 * pl1 + ne)))), (4, .int (tki ||| ((nI 1) <<< ((nI (4 * pl1 + ne)) &&& 31)))), (6, .int (nI (4 * pl1 + ne))), (0, .ref (q 0)), (1, .int (nI p1)), (2, .int (nI (32768 * gk + gt)))]) hx hb dX0_stepsToArrive_63 hl (k := 6) rfl (nI_inc _) (by decide) rfl (fun ls hl => ?_)
        refine lv_goto (tgt := 8) hx hb dX0_stepsToArrive_66 (by decide) ?_
        exact ih_8 _ (by omega) ⟨Ld (4 * pl1 + ne), tki ||| ((nI 1) <<< ((nI (4 * pl1 + ne)) &&& 31)), tkA tk (4 * pl1 + ne), by have := hnx.2; omega, tkR_add hf1_8 (by omega), by rw [← hf2_8, show 31 - i = (31 - (i + 1)) + 1 from by omega, sa_s (decide_eq_false (fun q => c_22 (by rw [q.1, q.2]))) hne hnx.1], lv_sub hl [4, 5, 6, 1, 2, 0] rfl⟩
      · refine lv_iconst (v := (-1)) hx hb dX0_stepsToArrive_44 (by decide) ?_
        exact k_iret hx hb hr hlocks dX0_stepsToArrive_45 (by rw [← hf2_8, show 31 - i = (30 - i) + 1 from by omega, sa_l (decide_eq_false (fun q => c_22 (by rw [q.1, q.2]))) ((wv_m1 hf0_8 (by rcases nx_lt (told := toldC sh ct ds K gk gt) (Ld := Ld) (tk := tk) (p := pl1) with q | q <;> omega)).mp c_41)])
    · refine lv_iload hx hb dX0_stepsToArrive_25 (lv_at hl 5 rfl) ?_
      exact k_iret hx hb hr hlocks dX0_stepsToArrive_27 (by rw [← hf2_8, show 31 - i = (30 - i) + 1 from by omega, sa_a (decide_eq_true ⟨by omega, by omega⟩)])
set_option maxHeartbeats 4000000 in
set_option maxRecDepth 100000 in
theorem c_X0_placeReached (l : Launch) (D : va_G) (cI : ClassId) (q : Nat → Nat) (sh sp ld nm tx ds ct : Nat → Int32) (co : Int64) (kg : Int32) (ks : Nat → Int32) (p1 : Nat) (hp : p1 < 8) (gt gk : Nat) (hgt : gt < 32768) (hgk : gk ≤ 5) (st : Nat) (hst : st ≤ 30) (T K Ld : Nat → Nat) (hS : ∀ w, w < 32 → T w < 32768 ∧ K w ≤ 5 ∧ tx w = nI (32768 * K w + T w) ∧ ∀ j, j < K w → S25 (ct (w * 5 + j))) (hL : ∀ w, w < 32 → Ld w ≤ 8 ∧ ld w = ix (Ld w)) (hsh : ∀ g, g < 8 → S25 (sh g)) (NT NK : Nat → Nat) (hN : ∀ p, p < 8 → NT p < 32768 ∧ NK p ≤ 5 ∧ nm p = nI (32768 * NK p + NT p)) : k_M l yX0_placeReached wsX0_placeReached ({ frames := 6, cells := 0, slots := 0, locals := 141 } : Room) [.ref (q 0), .int (nI p1), .int (nI (32768 * gk + gt)), .int (nI st)] (k_B D (wx cI q sh sp ld nm tx ds ct co kg ks) [(cI, .int)]) (some (.int (nI (pl (toldC sh ct ds K gk gt) Ld (arrC NK NT gk gt) st p1 tk0)))) := by
  refine k_head (cc := cX0_placeReached) (maxL := 8) (ret := some .int) [(0, .ref (q 0)), (1, .int (nI p1)), (2, .int (nI (32768 * gk + gt))), (3, .int (nI st))] (by decide) rfl (Nat.le_of_ble_eq_true rfl) rfl ?_
  intro p e s m below meth c ls hx hb hr hml hown hts hlocks hname hB hl
  have hown : s.vm.findClass RX0 = some m.cls := hown
  obtain ⟨hP, hK⟩ := hB
  have hin : ∀ w ∈ wsX00, w ∈ wsX0_placeReached := fun w h => List.mem_cons_of_mem _ (List.mem_append_right _ h)
  refine lv_iload_n hx hb dX0_placeReached_0 rfl (lv_at hl 1 rfl) ?_
  refine lv_istore (lv' := [(4, .int (nI p1)), (0, .ref (q 0)), (1, .int (nI p1)), (2, .int (nI (32768 * gk + gt))), (3, .int (nI st))]) hx hb dX0_placeReached_1 hl (by decide) rfl (fun ls hl => ?_)
  refine lv_iconst (v := nI 0) hx hb dX0_placeReached_3 (by decide) ?_
  refine lv_istore (lv' := [(5, .int (nI 0)), (4, .int (nI p1)), (0, .ref (q 0)), (1, .int (nI p1)), (2, .int (nI (32768 * gk + gt))), (3, .int (nI st))]) hx hb dX0_placeReached_4 hl (by decide) rfl (fun ls hl => ?_)
  refine lv_iconst (v := nI 0) hx hb dX0_placeReached_6 (by decide) ?_
  refine lv_istore (lv' := [(6, .int (nI 0)), (5, .int (nI 0)), (4, .int (nI p1)), (0, .ref (q 0)), (1, .int (nI p1)), (2, .int (nI (32768 * gk + gt))), (3, .int (nI st))]) hx hb dX0_placeReached_7 hl (by decide) rfl (fun ls hl => ?_)
  refine W.loop (fun i ls => ∃ (pl1 : Nat) (tki : Int32) (tk : Nat → Bool), (pl1 < 8) ∧ (tkR tki tk) ∧ (pl (toldC sh ct ds K gk gt) Ld (arrC NK NT gk gt) (st - i) pl1 tk = pl (toldC sh ct ds K gk gt) Ld (arrC NK NT gk gt) st p1 tk0) ∧ lv_has ls 8 [(0, .ref (q 0)), (1, .int (nI p1)), (2, .int (nI (32768 * gk + gt))), (3, .int (nI st)), (4, .int (nI pl1)), (5, .int tki), (6, .int (nI i))]) (st) (0) (by omega) ⟨p1, nI 0, tk0, hp, tkR_0, rfl, lv_sub hl [3, 4, 5, 6, 2, 1, 0] rfl⟩ ?_
  intro i ls hi_9 hI_9 ih_9
  obtain ⟨pl1, tki, tk, hf0_9, hf1_9, hf2_9, hl⟩ := hI_9
  refine lv_iload hx hb dX0_placeReached_9 (lv_at hl 6 rfl) ?_
  refine lv_iload_n hx hb dX0_placeReached_11 rfl (lv_at hl 3 rfl) ?_
  refine n_icmp_ge (tgt := 70) hx hb dX0_placeReached_12 (by decide) (by omega) (by omega) (fun c_12 => ?_) (fun c_12 => ?_)
  · refine lv_iload hx hb dX0_placeReached_70 (lv_at hl 4 rfl) ?_
    exact k_iret hx hb hr hlocks dX0_placeReached_72 (by rw [← hf2_9, show st - i = 0 from by omega]; rfl)
  · have hn1 := hN pl1 hf0_9
    refine lv_aload_n hx hb dX0_placeReached_15 rfl (lv_at hl 0 rfl) ?_
    refine va_get (D := D) (ci := 0) (v := .ref (q 4)) (C := RX0) (T := TX0) (N := 10) hx hb hts hin hown hK hP 0 rfl rfl 3 (by decide) (hts (.fieldLink RX0 19 "SignRail" "names" "[I") (by decide +kernel)) (fun _ h9 => h9) rfl dX0_placeReached_16 ?_
    refine lv_iload hx hb dX0_placeReached_19 (lv_at hl 4 rfl) ?_
    refine n_iald hx hb hK hP 4 0 rfl rfl (k := pl1) (by omega) (Nat.le_of_ble_eq_true rfl) dX0_placeReached_21 ?_
    refine lv_as (y := nI (32768 * (NK pl1) + (NT pl1))) (hn1.2.2) ?_
    refine lv_iload_n hx hb dX0_placeReached_22 rfl (lv_at hl 2 rfl) ?_
    refine n_icmp_eq (tgt := 70) hx hb dX0_placeReached_23 (by decide) (by omega) (by omega) (fun c_23 => ?_) (fun c_23 => ?_)
    · refine lv_iload hx hb dX0_placeReached_70 (lv_at hl 4 rfl) ?_
      exact k_iret hx hb hr hlocks dX0_placeReached_72 (by rw [← hf2_9, show st - i = (st - i - 1) + 1 from by omega, pl_a (decide_eq_true ⟨by omega, by omega⟩)])
    · refine lv_aload_n hx hb dX0_placeReached_26 rfl (lv_at hl 0 rfl) ?_
      refine lv_iload hx hb dX0_placeReached_27 (lv_at hl 4 rfl) ?_
      refine lv_iload_n hx hb dX0_placeReached_29 rfl (lv_at hl 2 rfl) ?_
      refine lv_iload hx hb dX0_placeReached_30 (lv_at hl 5 rfl) ?_
      refine k_callVi (As := [.int (nI pl1), .int (nI (32768 * gk + gt)), .int tki]) (rest := []) ⟨hx, hb, hml, hown, hts⟩ (c_X0_nextWay l D cI q sh sp ld nm tx ds ct co kg ks pl1 hf0_9 gt gk hgt hgk tki tk hf1_9 T K Ld hS hL hsh) (cwV 3 hts gX0_placeReached_X0_nextWay rfl rfl rfl (by decide +kernel) ⟨Nat.le_of_ble_eq_true rfl, Nat.le_of_ble_eq_true rfl⟩) k_B_bl (k_B_of hP hK) (va_recv hK hP (ci := 0) (q0 := 0) rfl rfl) rfl hl.1 rfl (Nat.le_of_ble_eq_true rfl) dX0_placeReached_32 ⟨Nat.zero_le _, Nat.zero_le _⟩ ?_
      refine lv_istore (lv' := [(7, .int (wv pl1 (nx (toldC sh ct ds K gk gt) Ld tk pl1))), (0, .ref (q 0)), (1, .int (nI p1)), (2, .int (nI (32768 * gk + gt))), (3, .int (nI st)), (4, .int (nI pl1)), (5, .int tki), (6, .int (nI i))]) hx hb dX0_placeReached_35 hl (by decide) rfl (fun ls hl => ?_)
      refine lv_iload hx hb dX0_placeReached_37 (lv_at hl 0 rfl) ?_
      refine lv_iconst (v := (-1)) hx hb dX0_placeReached_39 (by decide) ?_
      refine lv_icmp_ne (tgt := 46) hx hb dX0_placeReached_40 (by decide) (fun c_40 => ?_) (fun c_40 => ?_)
      · have hnx : nx (toldC sh ct ds K gk gt) Ld tk pl1 < 4 ∧ Ld (4 * pl1 + nx (toldC sh ct ds K gk gt) Ld tk pl1) ≠ 8 := nx_lt.resolve_left (fun q => c_40 (by rw [q]; rfl))
        rw [wv_lt hnx.1] at hl
        generalize hne : nx (toldC sh ct ds K gk gt) Ld tk pl1 = ne at hl hnx
        have hle := (hL (4 * pl1 + ne) (by omega)).1
        refine lv_iload hx hb dX0_placeReached_46 (lv_at hl 6 rfl) ?_
        refine lv_iconst (v := nI 1) hx hb dX0_placeReached_48 (by decide) ?_
        refine lv_iload hx hb dX0_placeReached_49 (lv_at hl 0 rfl) ?_
        refine lv_ishl hx hb dX0_placeReached_51 ?_
        refine lv_ior hx hb dX0_placeReached_52 ?_
        refine lv_istore (lv' := [(5, .int (tki ||| ((nI 1) <<< ((nI (4 * pl1 + ne)) &&& 31)))), (7, .int (nI (4 * pl1 + ne))), (0, .ref (q 0)), (1, .int (nI p1)), (2, .int (nI (32768 * gk + gt))), (3, .int (nI st)), (4, .int (nI pl1)), (6, .int (nI i))]) hx hb dX0_placeReached_53 hl (by decide) rfl (fun ls hl => ?_)
        refine lv_aload_n hx hb dX0_placeReached_55 rfl (lv_at hl 2 rfl) ?_
        refine va_get (D := D) (ci := 0) (v := .ref (q 3)) (C := RX0) (T := TX0) (N := 10) hx hb hts hin hown hK hP 0 rfl rfl 2 (by decide) (hts (.fieldLink RX0 16 "SignRail" "leads" "[I") (by decide +kernel)) (fun _ h9 => h9) rfl dX0_placeReached_56 ?_
        refine lv_iload hx hb dX0_placeReached_59 (lv_at hl 1 rfl) ?_
        refine n_iald hx hb hK hP 3 0 rfl rfl (k := (4 * pl1 + ne)) (by omega) (Nat.le_of_ble_eq_true rfl) dX0_placeReached_61 ?_
        refine lv_as (y := nI (Ld (4 * pl1 + ne))) (((hL _ (by omega)).2).trans (ix_lt (by have := hnx.2; omega))) ?_
        refine lv_istore (lv' := [(4, .int (nI (Ld (4 * pl1 + ne)))), (5, .int (tki ||| ((nI 1) <<< ((nI (4 * pl1 + ne)) &&& 31)))), (7, .int (nI (4 * pl1 + ne))), (0, .ref (q 0)), (1, .int (nI p1)), (2, .int (nI (32768 * gk + gt))), (3, .int (nI st)), (6, .int (nI i))]) hx hb dX0_placeReached_62 hl (by decide) rfl (fun ls hl => ?_)
        refine lv_iinc (v := nI (i + 1)) (lv' := [(6, .int (nI (i + 1))), (4, .int (nI (Ld (4 * pl1 + ne)))), (5, .int (tki ||| ((nI 1) <<< ((nI (4 * pl1 + ne)) &&& 31)))), (7, .int (nI (4 * pl1 + ne))), (0, .ref (q 0)), (1, .int (nI p1)), (2, .int (nI (32768 * gk + gt))), (3, .int (nI st))]) hx hb dX0_placeReached_64 hl (k := 7) rfl (nI_inc _) (by decide) rfl (fun ls hl => ?_)
        refine lv_goto (tgt := 9) hx hb dX0_placeReached_67 (by decide) ?_
        exact ih_9 _ (by omega) ⟨Ld (4 * pl1 + ne), tki ||| ((nI 1) <<< ((nI (4 * pl1 + ne)) &&& 31)), tkA tk (4 * pl1 + ne), by have := hnx.2; omega, tkR_add hf1_9 (by omega), by rw [← hf2_9, show st - i = (st - (i + 1)) + 1 from by omega, pl_s (decide_eq_false (fun q => c_23 (by rw [q.1, q.2]))) hne hnx.1], lv_sub hl [4, 5, 6, 7, 1, 2, 0] rfl⟩
      · refine lv_iload hx hb dX0_placeReached_43 (lv_at hl 5 rfl) ?_
        exact k_iret hx hb hr hlocks dX0_placeReached_45 (by rw [← hf2_9, show st - i = (st - i - 1) + 1 from by omega, pl_l ((wv_m1 hf0_9 (by rcases nx_lt (told := toldC sh ct ds K gk gt) (Ld := Ld) (tk := tk) (p := pl1) with q | q <;> omega)).mp c_40)])
