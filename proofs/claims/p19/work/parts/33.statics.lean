theorem rg_f1 {v lo hi : Int32} (h : v < lo) : nI 0 = bI (rgB v lo hi) := by simp [rgB, h]; rfl
theorem rg_f2 {v lo hi : Int32} (h : hi < v) : nI 0 = bI (rgB v lo hi) := by simp [rgB, h]; rfl
theorem rg_t {v lo hi : Int32} (h1 : ¬ v < lo) (h2 : ¬ hi < v) : nI 1 = bI (rgB v lo hi) := by simp [rgB, h1, h2]; rfl
theorem tx_rg (t : Int32) {k : Nat} (h1 : 1 ≤ k) (h2 : k ≤ 5) : rgB t (nI 0) (nI (8 ^ k - 1)) = txB t (nI k) := by
  have h3 := p8_le h2
  have h4 := p8_pos k
  rw [txB_k h1 h2, rg_in t (by omega), Nat.sub_add_cancel (by omega)]
theorem wfF_t {h : Nat → Bool} {k : Nat} (e : h k = true) : wfF h (k + 1) = ((if (wfF h k).1 = -1 then nI k else (wfF h k).1), nI k) := by
  show (if h k then _ else _) = _
  rw [if_pos e]
theorem wfF_f {h : Nat → Bool} {k : Nat} (e : h k = false) : wfF h (k + 1) = wfF h k := by
  show (if h k then _ else _) = _
  rw [if_neg (by rw [e]; decide)]
theorem bI_c {b c : Bool} (h : b = c) : bI b = bI c := by rw [h]
set_option maxHeartbeats 4000000 in
set_option maxRecDepth 100000 in
theorem c_J6_bitCount_0f7a4 (l : Launch) (x : Int32) : k_M l yJ6_bitCount_0f7a4 wsJ6_bitCount_0f7a4 ({ frames := 0, cells := 0, slots := 0, locals := 0 } : Room) [.int x] k_tt (some (.int (bcJ x))) := by
  refine k_head (cc := cJ6_bitCount_0f7a4) (maxL := 1) (ret := some .int) [(0, .int x)] (by decide) rfl (Nat.le_of_ble_eq_true rfl) rfl ?_
  intro p e s m below meth c ls hx hb hr hml hown hts hlocks hname hB hl
  have hown : s.vm.findClass RJ6 = some m.cls := hown
  refine lv_iload_n hx hb dJ6_bitCount_0f7a4_0 rfl (lv_at hl 0 rfl) ?_
  refine lv_iload_n hx hb dJ6_bitCount_0f7a4_1 rfl (lv_at hl 0 rfl) ?_
  refine lv_iconst (v := nI 1) hx hb dJ6_bitCount_0f7a4_2 (by decide) ?_
  refine lv_iushr (v := (x.toUInt32 >>> ((nI 1).toUInt32 &&& Int32.toUInt32 31)).toInt32) hx hb dJ6_bitCount_0f7a4_3 rfl ?_
  refine lv_ldcw (own := RJ6) (v := 1431655765) hx hb hown (hts (.constant RJ6 265 (1431655765)) (by decide +kernel)) dJ6_bitCount_0f7a4_4 ?_
  refine lv_iand hx hb dJ6_bitCount_0f7a4_7 ?_
  refine lv_isub hx hb dJ6_bitCount_0f7a4_8 ?_
  refine lv_as (y := bc1 x) (rfl) ?_
  refine lv_istore_n (lv' := [(0, .int (bc1 x))]) hx hb dJ6_bitCount_0f7a4_9 rfl hl (by decide) rfl (fun ls hl => ?_)
  refine lv_iload_n hx hb dJ6_bitCount_0f7a4_10 rfl (lv_at hl 0 rfl) ?_
  refine lv_ldcw (own := RJ6) (v := 858993459) hx hb hown (hts (.constant RJ6 266 (858993459)) (by decide +kernel)) dJ6_bitCount_0f7a4_11 ?_
  refine lv_iand hx hb dJ6_bitCount_0f7a4_14 ?_
  refine lv_iload_n hx hb dJ6_bitCount_0f7a4_15 rfl (lv_at hl 0 rfl) ?_
  refine lv_iconst (v := nI 2) hx hb dJ6_bitCount_0f7a4_16 (by decide) ?_
  refine lv_iushr (v := ((bc1 x).toUInt32 >>> ((nI 2).toUInt32 &&& Int32.toUInt32 31)).toInt32) hx hb dJ6_bitCount_0f7a4_17 rfl ?_
  refine lv_ldcw (own := RJ6) (v := 858993459) hx hb hown (hts (.constant RJ6 266 (858993459)) (by decide +kernel)) dJ6_bitCount_0f7a4_18 ?_
  refine lv_iand hx hb dJ6_bitCount_0f7a4_21 ?_
  refine lv_iadd hx hb dJ6_bitCount_0f7a4_22 ?_
  refine lv_as (y := bc2 (bc1 x)) (rfl) ?_
  refine lv_istore_n (lv' := [(0, .int (bc2 (bc1 x)))]) hx hb dJ6_bitCount_0f7a4_23 rfl hl (by decide) rfl (fun ls hl => ?_)
  refine lv_iload_n hx hb dJ6_bitCount_0f7a4_24 rfl (lv_at hl 0 rfl) ?_
  refine lv_iload_n hx hb dJ6_bitCount_0f7a4_25 rfl (lv_at hl 0 rfl) ?_
  refine lv_iconst (v := nI 4) hx hb dJ6_bitCount_0f7a4_26 (by decide) ?_
  refine lv_iushr (v := ((bc2 (bc1 x)).toUInt32 >>> ((nI 4).toUInt32 &&& Int32.toUInt32 31)).toInt32) hx hb dJ6_bitCount_0f7a4_27 rfl ?_
  refine lv_iadd hx hb dJ6_bitCount_0f7a4_28 ?_
  refine lv_ldcw (own := RJ6) (v := 252645135) hx hb hown (hts (.constant RJ6 267 (252645135)) (by decide +kernel)) dJ6_bitCount_0f7a4_29 ?_
  refine lv_iand hx hb dJ6_bitCount_0f7a4_32 ?_
  refine lv_as (y := bc3 (bc2 (bc1 x))) (rfl) ?_
  refine lv_istore_n (lv' := [(0, .int (bc3 (bc2 (bc1 x))))]) hx hb dJ6_bitCount_0f7a4_33 rfl hl (by decide) rfl (fun ls hl => ?_)
  refine lv_iload_n hx hb dJ6_bitCount_0f7a4_34 rfl (lv_at hl 0 rfl) ?_
  refine lv_iload_n hx hb dJ6_bitCount_0f7a4_35 rfl (lv_at hl 0 rfl) ?_
  refine lv_bipush (v := nI 8) hx hb dJ6_bitCount_0f7a4_36 (by decide) ?_
  refine lv_iushr (v := ((bc3 (bc2 (bc1 x))).toUInt32 >>> ((nI 8).toUInt32 &&& Int32.toUInt32 31)).toInt32) hx hb dJ6_bitCount_0f7a4_38 rfl ?_
  refine lv_iadd hx hb dJ6_bitCount_0f7a4_39 ?_
  refine lv_as (y := bc4 (bc3 (bc2 (bc1 x)))) (rfl) ?_
  refine lv_istore_n (lv' := [(0, .int (bc4 (bc3 (bc2 (bc1 x)))))]) hx hb dJ6_bitCount_0f7a4_40 rfl hl (by decide) rfl (fun ls hl => ?_)
  refine lv_iload_n hx hb dJ6_bitCount_0f7a4_41 rfl (lv_at hl 0 rfl) ?_
  refine lv_iload_n hx hb dJ6_bitCount_0f7a4_42 rfl (lv_at hl 0 rfl) ?_
  refine lv_bipush (v := nI 16) hx hb dJ6_bitCount_0f7a4_43 (by decide) ?_
  refine lv_iushr (v := ((bc4 (bc3 (bc2 (bc1 x)))).toUInt32 >>> ((nI 16).toUInt32 &&& Int32.toUInt32 31)).toInt32) hx hb dJ6_bitCount_0f7a4_45 rfl ?_
  refine lv_iadd hx hb dJ6_bitCount_0f7a4_46 ?_
  refine lv_istore_n (lv' := [(0, .int ((bc4 (bc3 (bc2 (bc1 x)))) + (((bc4 (bc3 (bc2 (bc1 x)))).toUInt32 >>> ((nI 16).toUInt32 &&& Int32.toUInt32 31)).toInt32)))]) hx hb dJ6_bitCount_0f7a4_47 rfl hl (by decide) rfl (fun ls hl => ?_)
  refine lv_iload_n hx hb dJ6_bitCount_0f7a4_48 rfl (lv_at hl 0 rfl) ?_
  refine lv_bipush (v := nI 63) hx hb dJ6_bitCount_0f7a4_49 (by decide) ?_
  refine lv_iand hx hb dJ6_bitCount_0f7a4_51 ?_
  exact k_iret hx hb hr hlocks dJ6_bitCount_0f7a4_52 (rfl)
set_option maxHeartbeats 4000000 in
set_option maxRecDepth 100000 in
theorem c_X0_differing (l : Launch) (x y : Int32) (h1 : S25 x) (h2 : S25 y) : k_M l yX0_differing wsX0_differing ({ frames := 1, cells := 0, slots := 0, locals := 20 } : Room) [.int x, .int y] k_tt (some (.int (df x y))) := by
  refine k_head (cc := cX0_differing) (maxL := 2) (ret := some .int) [(0, .int x), (1, .int y)] (by decide) rfl (Nat.le_of_ble_eq_true rfl) rfl ?_
  intro p e s m below meth c ls hx hb hr hml hown hts hlocks hname hB hl
  have hown : s.vm.findClass RX0 = some m.cls := hown
  refine lv_iload_n hx hb dX0_differing_0 rfl (lv_at hl 0 rfl) ?_
  refine lv_iload_n hx hb dX0_differing_1 rfl (lv_at hl 1 rfl) ?_
  refine lv_ixor hx hb dX0_differing_2 ?_
  refine k_callSi (As := [.int (x ^^^ y)]) (rest := []) ⟨hx, hb, hml, hown, hts⟩ (c_J6_bitCount_0f7a4 l (x ^^^ y)) (va_cwS 1 hts gX0_differing_J6_bitCount_0f7a4 rfl rfl rfl (by decide +kernel) ⟨Nat.le_of_ble_eq_true rfl, Nat.le_of_ble_eq_true rfl⟩) k_bl_tt (fun _ _ _ => trivial) rfl hl.1 rfl (Nat.le_of_ble_eq_true rfl) dX0_differing_3 ⟨Nat.zero_le _, Nat.zero_le _⟩ ?_
  exact k_iret hx hb hr hlocks dX0_differing_6 (bc_df h1 h2)
set_option maxHeartbeats 4000000 in
set_option maxRecDepth 100000 in
theorem c_X0_lineCells (l : Launch) (a b c1 d1 : Nat) (ha : a < 5) (hb5 : b < 5) (hc : c1 < 5) (hd : d1 < 5) : k_M l yX0_lineCells wsX0_lineCells ({ frames := 1, cells := 0, slots := 0, locals := 23 } : Room) [.int (nI a), .int (nI b), .int (nI c1), .int (nI d1)] k_tt (some (.int (lcF (nI a) (nI b) (dr a c1) (dr b d1) (lnN a b c1 d1)))) := by
  refine k_head (cc := cX0_lineCells) (maxL := 9) (ret := some .int) [(0, .int (nI a)), (1, .int (nI b)), (2, .int (nI c1)), (3, .int (nI d1))] (by decide) rfl (Nat.le_of_ble_eq_true rfl) rfl ?_
  intro p e s m below meth c ls hx hb hr hml hown hts hlocks hname hB hl
  have hown : s.vm.findClass RX0 = some m.cls := hown
  have hda : dist a c1 < 5 := dist_lt a ha c1 hc
  have hdb : dist b d1 < 5 := dist_lt b hb5 d1 hd
  have hmx : max (dist a c1) (dist b d1) < 5 := by omega
  have hln : lnN a b c1 d1 = max (dist a c1) (dist b d1) + 1 := rfl
  refine lv_iload_n hx hb dX0_lineCells_0 rfl (lv_at hl 2 rfl) ?_
  refine lv_iload_n hx hb dX0_lineCells_1 rfl (lv_at hl 0 rfl) ?_
  refine lv_isub hx hb dX0_lineCells_2 ?_
  refine va_mabs (index := 154) hx hb (by rw [hml]; exact hl.1.symm) hown (hts (.methodLink RX0 154 Lib.Math.abs.name) (by decide +kernel)) (hts (.static Lib.Math.abs.name) (by decide +kernel)) (hts (.initialized "java/lang/Math") (by decide +kernel)) (hts (.code Lib.Math.abs.name Lib.Math.abs.code 1 (some .int)) (by decide +kernel)) (Nat.le_of_ble_eq_true rfl) (Nat.le_of_ble_eq_true rfl) (Nat.le_of_ble_eq_true rfl) (Nat.le_of_ble_eq_true rfl) dX0_lineCells_3 ?_
  refine lv_as (y := nI (dist a c1)) (absd a ha c1 hc) ?_
  refine lv_iload_n hx hb dX0_lineCells_6 rfl (lv_at hl 3 rfl) ?_
  refine lv_iload_n hx hb dX0_lineCells_7 rfl (lv_at hl 1 rfl) ?_
  refine lv_isub hx hb dX0_lineCells_8 ?_
  refine va_mabs (index := 154) hx hb (by rw [hml]; exact hl.1.symm) hown (hts (.methodLink RX0 154 Lib.Math.abs.name) (by decide +kernel)) (hts (.static Lib.Math.abs.name) (by decide +kernel)) (hts (.initialized "java/lang/Math") (by decide +kernel)) (hts (.code Lib.Math.abs.name Lib.Math.abs.code 1 (some .int)) (by decide +kernel)) (Nat.le_of_ble_eq_true rfl) (Nat.le_of_ble_eq_true rfl) (Nat.le_of_ble_eq_true rfl) (Nat.le_of_ble_eq_true rfl) dX0_lineCells_9 ?_
  refine lv_as (y := nI (dist b d1)) (absd b hb5 d1 hd) ?_
  refine va_mmax (index := 161) hx hb (by rw [hml]; exact hl.1.symm) hown (hts (.methodLink RX0 161 Lib.Math.max.name) (by decide +kernel)) (hts (.static Lib.Math.max.name) (by decide +kernel)) (hts (.initialized "java/lang/Math") (by decide +kernel)) (hts (.code Lib.Math.max.name Lib.Math.max.code 2 (some .int)) (by decide +kernel)) (Nat.le_of_ble_eq_true rfl) (Nat.le_of_ble_eq_true rfl) (Nat.le_of_ble_eq_true rfl) (Nat.le_of_ble_eq_true rfl) dX0_lineCells_12 ?_
  refine lv_as (y := nI (max (dist a c1) (dist b d1))) (maxd _ hda _ hdb) ?_
  refine lv_istore (lv' := [(4, .int (nI (max (dist a c1) (dist b d1)))), (0, .int (nI a)), (1, .int (nI b)), (2, .int (nI c1)), (3, .int (nI d1))]) hx hb dX0_lineCells_15 hl (by decide) rfl (fun ls hl => ?_)
  refine lv_iload_n hx hb dX0_lineCells_17 rfl (lv_at hl 1 rfl) ?_
  refine lv_iload_n hx hb dX0_lineCells_18 rfl (lv_at hl 3 rfl) ?_
  refine k_callSi (As := [.int (nI a), .int (nI c1)]) (rest := []) ⟨hx, hb, hml, hown, hts⟩ (c_X0_direction l a c1 (by omega) (by omega)) (va_cwS 2 hts gX0_lineCells_X0_direction rfl rfl rfl (by decide +kernel) ⟨Nat.le_of_ble_eq_true rfl, Nat.le_of_ble_eq_true rfl⟩) k_bl_tt (fun _ _ _ => trivial) rfl hl.1 rfl (Nat.le_of_ble_eq_true rfl) dX0_lineCells_19 ⟨Nat.zero_le _, Nat.zero_le _⟩ ?_
  refine lv_istore (lv' := [(5, .int (dr a c1)), (4, .int (nI (max (dist a c1) (dist b d1)))), (0, .int (nI a)), (1, .int (nI b)), (2, .int (nI c1)), (3, .int (nI d1))]) hx hb dX0_lineCells_22 hl (by decide) rfl (fun ls hl => ?_)
  refine lv_iload_n hx hb dX0_lineCells_24 rfl (lv_at hl 3 rfl) ?_
  refine lv_iload_n hx hb dX0_lineCells_25 rfl (lv_at hl 5 rfl) ?_
  refine k_callSi (As := [.int (nI b), .int (nI d1)]) (rest := []) ⟨hx, hb, hml, hown, hts⟩ (c_X0_direction l b d1 (by omega) (by omega)) (va_cwS 2 hts gX0_lineCells_X0_direction rfl rfl rfl (by decide +kernel) ⟨Nat.le_of_ble_eq_true rfl, Nat.le_of_ble_eq_true rfl⟩) k_bl_tt (fun _ _ _ => trivial) rfl hl.1 rfl (Nat.le_of_ble_eq_true rfl) dX0_lineCells_26 ⟨Nat.zero_le _, Nat.zero_le _⟩ ?_
  refine lv_istore (lv' := [(6, .int (dr b d1)), (5, .int (dr a c1)), (4, .int (nI (max (dist a c1) (dist b d1)))), (0, .int (nI a)), (1, .int (nI b)), (2, .int (nI c1)), (3, .int (nI d1))]) hx hb dX0_lineCells_29 hl (by decide) rfl (fun ls hl => ?_)
  refine lv_iconst (v := nI 0) hx hb dX0_lineCells_31 (by decide) ?_
  refine lv_istore (lv' := [(7, .int (nI 0)), (6, .int (dr b d1)), (5, .int (dr a c1)), (4, .int (nI (max (dist a c1) (dist b d1)))), (0, .int (nI a)), (1, .int (nI b)), (2, .int (nI c1)), (3, .int (nI d1))]) hx hb dX0_lineCells_32 hl (by decide) rfl (fun ls hl => ?_)
  refine lv_iconst (v := nI 0) hx hb dX0_lineCells_34 (by decide) ?_
  refine lv_istore (lv' := [(8, .int (nI 0)), (7, .int (nI 0)), (6, .int (dr b d1)), (5, .int (dr a c1)), (4, .int (nI (max (dist a c1) (dist b d1)))), (0, .int (nI a)), (1, .int (nI b)), (2, .int (nI c1)), (3, .int (nI d1))]) hx hb dX0_lineCells_35 hl (by decide) rfl (fun ls hl => ?_)
  refine W.loop (fun i ls => lv_has ls 9 [(0, .int (nI a)), (1, .int (nI b)), (2, .int (nI c1)), (3, .int (nI d1)), (4, .int (nI (max (dist a c1) (dist b d1)))), (5, .int (dr a c1)), (6, .int (dr b d1)), (7, .int (lcF (nI a) (nI b) (dr a c1) (dr b d1) i)), (8, .int (nI i))]) (lnN a b c1 d1) (0) (by omega) (lv_sub hl [5, 6, 7, 8, 4, 3, 2, 1, 0] rfl) ?_
  intro i ls hi_37 hI_37 ih_37
  have hl := hI_37
  refine lv_iload hx hb dX0_lineCells_37 (lv_at hl 8 rfl) ?_
  refine lv_iload hx hb dX0_lineCells_39 (lv_at hl 4 rfl) ?_
  refine n_icmp_gt (tgt := 74) hx hb dX0_lineCells_41 (by decide) (by omega) (by omega) (fun c_41 => ?_) (fun c_41 => ?_)
  · refine lv_iload hx hb dX0_lineCells_74 (lv_at hl 7 rfl) ?_
    exact k_iret hx hb hr hlocks dX0_lineCells_76 (by rw [show i = lnN a b c1 d1 from by unfold lnN at hi_37 ⊢; omega])
  · refine lv_iload hx hb dX0_lineCells_44 (lv_at hl 7 rfl) ?_
    refine lv_iconst (v := nI 1) hx hb dX0_lineCells_46 (by decide) ?_
    refine lv_iload_n hx hb dX0_lineCells_47 rfl (lv_at hl 1 rfl) ?_
    refine lv_iload hx hb dX0_lineCells_48 (lv_at hl 8 rfl) ?_
    refine lv_iload hx hb dX0_lineCells_50 (lv_at hl 6 rfl) ?_
    refine lv_imul hx hb dX0_lineCells_52 ?_
    refine lv_iadd hx hb dX0_lineCells_53 ?_
    refine lv_iconst (v := nI 5) hx hb dX0_lineCells_54 (by decide) ?_
    refine lv_imul hx hb dX0_lineCells_55 ?_
    refine lv_iload_n hx hb dX0_lineCells_56 rfl (lv_at hl 0 rfl) ?_
    refine lv_iadd hx hb dX0_lineCells_57 ?_
    refine lv_iload hx hb dX0_lineCells_58 (lv_at hl 8 rfl) ?_
    refine lv_iload hx hb dX0_lineCells_60 (lv_at hl 5 rfl) ?_
    refine lv_imul hx hb dX0_lineCells_62 ?_
    refine lv_iadd hx hb dX0_lineCells_63 ?_
    refine lv_ishl hx hb dX0_lineCells_64 ?_
    refine lv_ior hx hb dX0_lineCells_65 ?_
    refine lv_as (y := lcF (nI a) (nI b) (dr a c1) (dr b d1) (i + 1)) (rfl) ?_
    refine lv_istore (lv' := [(7, .int (lcF (nI a) (nI b) (dr a c1) (dr b d1) (i + 1))), (0, .int (nI a)), (1, .int (nI b)), (2, .int (nI c1)), (3, .int (nI d1)), (4, .int (nI (max (dist a c1) (dist b d1)))), (5, .int (dr a c1)), (6, .int (dr b d1)), (8, .int (nI i))]) hx hb dX0_lineCells_66 hl (by decide) rfl (fun ls hl => ?_)
    refine lv_iinc (v := nI (i + 1)) (lv' := [(8, .int (nI (i + 1))), (7, .int (lcF (nI a) (nI b) (dr a c1) (dr b d1) (i + 1))), (0, .int (nI a)), (1, .int (nI b)), (2, .int (nI c1)), (3, .int (nI d1)), (4, .int (nI (max (dist a c1) (dist b d1)))), (5, .int (dr a c1)), (6, .int (dr b d1))]) hx hb dX0_lineCells_68 hl (k := 8) rfl (nI_inc _) (by decide) rfl (fun ls hl => ?_)
    refine lv_goto (tgt := 37) hx hb dX0_lineCells_71 (by decide) ?_
    exact ih_37 _ (by unfold lnN; omega) (lv_sub hl [2, 3, 4, 5, 6, 7, 8, 1, 0] rfl)
set_option maxHeartbeats 4000000 in
set_option maxRecDepth 100000 in
theorem c_X0_hasColumn (l : Launch) (s0 : Int32) (x : Nat) (hx5 : x < 5) : k_M l yX0_hasColumn wsX0_hasColumn ({ frames := 2, cells := 0, slots := 0, locals := 51 } : Room) [.int s0, .int (nI x)] k_tt (some (.int (bI (hcC s0 x)))) := by
  refine k_head (cc := cX0_hasColumn) (maxL := 2) (ret := some .boolean) [(0, .int s0), (1, .int (nI x))] (by decide) rfl (Nat.le_of_ble_eq_true rfl) rfl ?_
  intro p e s m below meth c ls hx hb hr hml hown hts hlocks hname hB hl
  have hown : s.vm.findClass RX0 = some m.cls := hown
  refine lv_iload_n hx hb dX0_hasColumn_0 rfl (lv_at hl 0 rfl) ?_
  refine lv_iload_n hx hb dX0_hasColumn_1 rfl (lv_at hl 1 rfl) ?_
  refine lv_iconst (v := nI 0) hx hb dX0_hasColumn_2 (by decide) ?_
  refine lv_iload_n hx hb dX0_hasColumn_3 rfl (lv_at hl 1 rfl) ?_
  refine lv_iconst (v := nI 4) hx hb dX0_hasColumn_4 (by decide) ?_
  refine k_callSi (As := [.int (nI x), .int (nI 0), .int (nI x), .int (nI 4)]) (rest := [.int s0]) ⟨hx, hb, hml, hown, hts⟩ (c_X0_lineCells l x 0 x 4 (by omega) (by omega) (by omega) (by omega)) (va_cwS 4 hts gX0_hasColumn_X0_lineCells rfl rfl rfl (by decide +kernel) ⟨Nat.le_of_ble_eq_true rfl, Nat.le_of_ble_eq_true rfl⟩) k_bl_tt (fun _ _ _ => trivial) rfl hl.1 rfl (Nat.le_of_ble_eq_true rfl) dX0_hasColumn_5 ⟨Nat.zero_le _, Nat.zero_le _⟩ ?_
  refine lv_iand hx hb dX0_hasColumn_8 ?_
  refine lv_as (y := s0 &&& colm x) (rfl) ?_
  refine lv_if_eq (tgt := 16) hx hb dX0_hasColumn_9 (by decide) (fun c_9 => ?_) (fun c_9 => ?_)
  · refine lv_iconst (v := nI 0) hx hb dX0_hasColumn_16 (by decide) ?_
    exact k_zret hx hb hr hlocks dX0_hasColumn_17 (by simp [hcC, c_9]; rfl)
  · refine lv_iconst (v := nI 1) hx hb dX0_hasColumn_12 (by decide) ?_
    refine lv_goto (tgt := 17) hx hb dX0_hasColumn_13 (by decide) ?_
    exact k_zret hx hb hr hlocks dX0_hasColumn_17 (by simp [hcC, c_9]; rfl)
set_option maxHeartbeats 4000000 in
set_option maxRecDepth 100000 in
theorem c_X0_shapeWidth (l : Launch) (s0 : Int32) : k_M l yX0_shapeWidth wsX0_shapeWidth ({ frames := 3, cells := 0, slots := 0, locals := 72 } : Room) [.int s0] k_tt (some (.int (wdF (hcC s0)))) := by
  refine k_head (cc := cX0_shapeWidth) (maxL := 4) (ret := some .int) [(0, .int s0)] (by decide) rfl (Nat.le_of_ble_eq_true rfl) rfl ?_
  intro p e s m below meth c ls hx hb hr hml hown hts hlocks hname hB hl
  have hown : s.vm.findClass RX0 = some m.cls := hown
  refine lv_iconst (v := (-1)) hx hb dX0_shapeWidth_0 (by decide) ?_
  refine lv_istore_n (lv' := [(1, .int (-1)), (0, .int s0)]) hx hb dX0_shapeWidth_1 rfl hl (by decide) rfl (fun ls hl => ?_)
  refine lv_iconst (v := (-1)) hx hb dX0_shapeWidth_2 (by decide) ?_
  refine lv_istore_n (lv' := [(2, .int (-1)), (1, .int (-1)), (0, .int s0)]) hx hb dX0_shapeWidth_3 rfl hl (by decide) rfl (fun ls hl => ?_)
  refine lv_iconst (v := nI 0) hx hb dX0_shapeWidth_4 (by decide) ?_
  refine lv_istore_n (lv' := [(3, .int (nI 0)), (2, .int (-1)), (1, .int (-1)), (0, .int s0)]) hx hb dX0_shapeWidth_5 rfl hl (by decide) rfl (fun ls hl => ?_)
  refine W.loop (fun i ls => ∃ (f1 : Int32) (l1 : Int32), (f1 = (wfF (hcC s0) i).1) ∧ (l1 = (wfF (hcC s0) i).2) ∧ lv_has ls 4 [(0, .int s0), (1, .int f1), (2, .int l1), (3, .int (nI i))]) (5) (0) (by omega) ⟨(-1), (-1), rfl, rfl, lv_sub hl [3, 2, 1, 0] rfl⟩ ?_
  intro i ls hi_6 hI_6 ih_6
  obtain ⟨f1, l1, hf0_6, hf1_6, hl⟩ := hI_6
  refine lv_iload_n hx hb dX0_shapeWidth_6 rfl (lv_at hl 3 rfl) ?_
  refine lv_iconst (v := nI 5) hx hb dX0_shapeWidth_7 (by decide) ?_
  refine n_icmp_ge (tgt := 38) hx hb dX0_shapeWidth_8 (by decide) (by omega) (by omega) (fun c_8 => ?_) (fun c_8 => ?_)
  · refine lv_iload_n hx hb dX0_shapeWidth_38 rfl (lv_at hl 1 rfl) ?_
    refine lv_iconst (v := (-1)) hx hb dX0_shapeWidth_39 (by decide) ?_
    refine lv_icmp_ne (tgt := 47) hx hb dX0_shapeWidth_40 (by decide) (fun c_40 => ?_) (fun c_40 => ?_)
    · refine lv_iload_n hx hb dX0_shapeWidth_47 rfl (lv_at hl 2 rfl) ?_
      refine lv_iload_n hx hb dX0_shapeWidth_48 rfl (lv_at hl 1 rfl) ?_
      refine lv_isub hx hb dX0_shapeWidth_49 ?_
      refine lv_iconst (v := nI 1) hx hb dX0_shapeWidth_50 (by decide) ?_
      refine lv_iadd hx hb dX0_shapeWidth_51 ?_
      have h5 : i = 5 := by omega
      subst h5
      exact k_iret hx hb hr hlocks dX0_shapeWidth_52 (by simp [wdF, ← hf0_6, ← hf1_6, c_40])
    · refine lv_iconst (v := nI 2) hx hb dX0_shapeWidth_43 (by decide) ?_
      refine lv_goto (tgt := 52) hx hb dX0_shapeWidth_44 (by decide) ?_
      have h5 : i = 5 := by omega
      subst h5
      exact k_iret hx hb hr hlocks dX0_shapeWidth_52 (by simp [wdF, ← hf0_6, ← hf1_6, c_40])
  · refine lv_iload_n hx hb dX0_shapeWidth_11 rfl (lv_at hl 0 rfl) ?_
    refine lv_iload_n hx hb dX0_shapeWidth_12 rfl (lv_at hl 3 rfl) ?_
    refine k_callSi (As := [.int s0, .int (nI i)]) (rest := []) ⟨hx, hb, hml, hown, hts⟩ (c_X0_hasColumn l s0 i (by omega)) (va_cwS 2 hts gX0_shapeWidth_X0_hasColumn rfl rfl rfl (by decide +kernel) ⟨Nat.le_of_ble_eq_true rfl, Nat.le_of_ble_eq_true rfl⟩) k_bl_tt (fun _ _ _ => trivial) rfl hl.1 rfl (Nat.le_of_ble_eq_true rfl) dX0_shapeWidth_13 ⟨Nat.zero_le _, Nat.zero_le _⟩ ?_
    refine b_if_eq (tgt := 32) hx hb dX0_shapeWidth_16 (by decide) (fun c_16 => ?_) (fun c_16 => ?_)
    · refine lv_iinc (v := nI (i + 1)) (lv' := [(3, .int (nI (i + 1))), (0, .int s0), (1, .int f1), (2, .int l1)]) hx hb dX0_shapeWidth_32 hl (k := 3) rfl (nI_inc _) (by decide) rfl (fun ls hl => ?_)
      refine lv_goto (tgt := 6) hx hb dX0_shapeWidth_35 (by decide) ?_
      exact ih_6 _ (by omega) ⟨f1, l1, by rw [wfF_f c_16]; exact hf0_6, by rw [wfF_f c_16]; exact hf1_6, lv_sub hl [1, 2, 3, 0] rfl⟩
    · refine lv_iload_n hx hb dX0_shapeWidth_19 rfl (lv_at hl 1 rfl) ?_
      refine lv_iconst (v := (-1)) hx hb dX0_shapeWidth_20 (by decide) ?_
      refine lv_icmp_ne (tgt := 28) hx hb dX0_shapeWidth_21 (by decide) (fun c_21 => ?_) (fun c_21 => ?_)
      · refine lv_iload_n hx hb dX0_shapeWidth_28 rfl (lv_at hl 1 rfl) ?_
        refine lv_istore_n (lv' := [(1, .int f1), (0, .int s0), (2, .int l1), (3, .int (nI i))]) hx hb dX0_shapeWidth_29 rfl hl (by decide) rfl (fun ls hl => ?_)
        refine lv_iload_n hx hb dX0_shapeWidth_30 rfl (lv_at hl 3 rfl) ?_
        refine lv_istore_n (lv' := [(2, .int (nI i)), (1, .int f1), (0, .int s0), (3, .int (nI i))]) hx hb dX0_shapeWidth_31 rfl hl (by decide) rfl (fun ls hl => ?_)
        refine lv_iinc (v := nI (i + 1)) (lv' := [(3, .int (nI (i + 1))), (2, .int (nI i)), (1, .int f1), (0, .int s0)]) hx hb dX0_shapeWidth_32 hl (k := 3) rfl (nI_inc _) (by decide) rfl (fun ls hl => ?_)
        refine lv_goto (tgt := 6) hx hb dX0_shapeWidth_35 (by decide) ?_
        exact ih_6 _ (by omega) ⟨f1, nI i, by rw [wfF_t c_16, ← hf0_6]; exact (if_neg c_21).symm, by rw [wfF_t c_16], lv_sub hl [3, 2, 1, 0] rfl⟩
      · refine lv_iload_n hx hb dX0_shapeWidth_24 rfl (lv_at hl 3 rfl) ?_
        refine lv_goto (tgt := 29) hx hb dX0_shapeWidth_25 (by decide) ?_
        refine lv_istore_n (lv' := [(1, .int (nI i)), (0, .int s0), (2, .int l1), (3, .int (nI i))]) hx hb dX0_shapeWidth_29 rfl hl (by decide) rfl (fun ls hl => ?_)
        refine lv_iload_n hx hb dX0_shapeWidth_30 rfl (lv_at hl 3 rfl) ?_
        refine lv_istore_n (lv' := [(2, .int (nI i)), (1, .int (nI i)), (0, .int s0), (3, .int (nI i))]) hx hb dX0_shapeWidth_31 rfl hl (by decide) rfl (fun ls hl => ?_)
        refine lv_iinc (v := nI (i + 1)) (lv' := [(3, .int (nI (i + 1))), (2, .int (nI i)), (1, .int (nI i)), (0, .int s0)]) hx hb dX0_shapeWidth_32 hl (k := 3) rfl (nI_inc _) (by decide) rfl (fun ls hl => ?_)
        refine lv_goto (tgt := 6) hx hb dX0_shapeWidth_35 (by decide) ?_
        exact ih_6 _ (by omega) ⟨nI i, nI i, by rw [wfF_t c_16, ← hf0_6]; exact (if_pos c_21).symm, by rw [wfF_t c_16], lv_sub hl [3, 2, 1, 0] rfl⟩
