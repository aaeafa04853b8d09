def cd1 (a : Bool) : Nat := if a then 0 else 1
def cd2 (a b : Bool) : Nat := if a then (if b then 0 else 2) else 1
def cd3 (a b c : Bool) : Nat := if a then (if b then (if c then 0 else 3) else 2) else 1
theorem cd1_1 {a : Bool} (h : a = false) : cd1 a = 1 := by rw [h]; rfl
theorem cd1_0 {a : Bool} (h : a = true) : cd1 a = 0 := by rw [h]; rfl
theorem cd2_1 {a b : Bool} (h : a = false) : cd2 a b = 1 := by rw [h]; rfl
theorem cd2_2 {a b : Bool} (h : a = true) (h2 : b = false) : cd2 a b = 2 := by rw [h, h2]; rfl
theorem cd2_0 {a b : Bool} (h : a = true) (h2 : b = true) : cd2 a b = 0 := by rw [h, h2]; rfl
theorem cd3_1 {a b c : Bool} (h : a = false) : cd3 a b c = 1 := by rw [h]; rfl
theorem cd3_2 {a b c : Bool} (h : a = true) (h2 : b = false) : cd3 a b c = 2 := by rw [h, h2]; rfl
theorem cd3_3 {a b c : Bool} (h : a = true) (h2 : b = true) (h3 : c = false) : cd3 a b c = 3 := by rw [h, h2, h3]; rfl
theorem cd3_0 {a b c : Bool} (h : a = true) (h2 : b = true) (h3 : c = true) : cd3 a b c = 0 := by rw [h, h2, h3]; rfl
def stk (bk s c : Int32) : Int32 := if bk = 0 then s &&& (c ^^^ (-1)) else s ||| c
theorem S25_of {x : Int32} (h : x.toBitVec.toNat < 33554432) : S25 x := by
  obtain ⟨n, hn, rfl⟩ := wb_of32 x
  rw [pk_tn hn] at h
  exact ⟨n, by omega, rfl⟩
theorem lc_25 : ∀ a, a < 5 → ∀ b, b < 5 → ∀ c, c < 5 → ∀ d, d < 5 → lnK a b c d = true → (lcF (nI a) (nI b) (dr a c) (dr b d) (lnN a b c d)).toBitVec.toNat < 33554432 := by decide +kernel
theorem S25_stk {bk s c : Int32} (h : S25 s) (hc : S25 c) : S25 (stk bk s c) := by
  unfold stk
  split
  · exact S25_and _ h
  · exact S25_or h hc
theorem d9_t {d : Int32} (h : ¬ d < 0) (h2 : d ≤ nI 9) : inB d 10 = true := by
  rw [← rg_in d (n := 9) (by decide)]
  exact decide_eq_true ⟨by rw [nI_0]; exact h, le_nlt h2⟩
theorem d9_f {d : Int32} (h2 : ¬ d ≤ nI 9) : inB d 10 = false := by
  rw [← rg_in d (n := 9) (by decide)]
  exact decide_eq_false (fun q => q.2 (fa_of_nle h2))
abbrev lcN (a b c d : Nat) : Int32 := lcF (nI a) (nI b) (dr a c) (dr b d) (lnN a b c d)
set_option maxHeartbeats 4000000 in
set_option maxRecDepth 100000 in
theorem c_X0_stroke (l : Launch) (hst : l.stackTraces = false) (D : va_G) (cI : ClassId) (q : Nat → Nat) (sh sp ld nm tx ds ct : Nat → Int32) (co : Int64) (kg : Int32) (ks : Nat → Int32) (g a b c0 d0 bk : Int32) (hsh : ∀ g, g < 8 → S25 (sh g)) (hDt : va_D (fun _ => True) (wx cI q sh sp ld nm tx ds ct co kg ks)) : vx_Met l yX0_stroke wsX0_stroke ({ frames := 7, cells := 8, slots := 48, locals := 115 } : Room) (k_P [.ref (q 0), .int g, .int a, .int b, .int c0, .int d0, .int bk] (fun U => k_B D (wx cI q sh sp ld nm tx ds ct co kg ks) [(cI, .int)] U ∧ k_ex U)) (k_WQ D (wx cI q sh sp ld nm tx ds ct co kg ks) (fun u : Nat × Nat × Nat × Nat × Nat => cd2 (inB g 8) (lnB a b c0 d0) = 0 ∧ u.1 < 8 ∧ g = nI u.1 ∧ u.2.1 < 5 ∧ u.2.2.1 < 5 ∧ u.2.2.2.1 < 5 ∧ u.2.2.2.2 < 5 ∧ a = nI u.2.1 ∧ b = nI u.2.2.1 ∧ c0 = nI u.2.2.2.1 ∧ d0 = nI u.2.2.2.2 ∧ lnK u.2.1 u.2.2.1 u.2.2.2.1 u.2.2.2.2 = true) (fun u => wx cI q (upd sh u.1 (stk bk (sh u.1) (lcN u.2.1 u.2.2.1 u.2.2.2.1 u.2.2.2.2))) sp ld nm tx ds ct co (nI 0) ks) (fun u => some (.int (df (sh u.1) (stk bk (sh u.1) (lcN u.2.1 u.2.2.1 u.2.2.2.1 u.2.2.2.2)))))) (k_XC (fun E => (E, cd2 (inB g 8) (lnB a b c0 d0)) ∈ ([(k_IO, 1), (k_IA, 2)] : List (String × Nat)))) 8 48 (k_A (wx cI q sh sp ld nm tx ds ct co kg ks)) := by
  refine k_headX (cc := cX0_stroke) (maxL := 10) (ret := (some .int)) [(0, .ref (q 0)), (1, .int g), (2, .int a), (3, .int b), (4, .int c0), (5, .int d0), (6, .int bk)] (by decide) rfl (Nat.le_of_ble_eq_true rfl) rfl ?_
  intro p e s m below meth c ls hx hb hr hml hown hts hlocks ht hB hl
  have hown : s.vm.findClass RX0 = some m.cls := hown
  obtain ⟨⟨hP, hK⟩, hex⟩ := hB
  have hin : ∀ w ∈ wsX00, w ∈ wsX0_stroke := fun w h => List.mem_cons_of_mem _ (List.mem_append_left _ (List.mem_append_left _ (List.mem_append_right _ h)))
  have hD := k_A_D hDt
  have hS : va_S (k_A (wx cI q sh sp ld nm tx ds ct co kg ks)) s.heap s.heap [] := va_S.rf
  refine lv_iload_n hx hb dX0_stroke_0 rfl (lv_at hl 1 rfl) ?_
  refine k_reqS (As := [.int g]) (rest := []) ⟨hx, hb, hml, hown, hts⟩ (c_X0_requireGlyph l hst g) (va_cwS 1 hts gX0_stroke_X0_requireGlyph rfl rfl rfl (by decide +kernel) ⟨Nat.le_of_ble_eq_true rfl, Nat.le_of_ble_eq_true rfl⟩) k_ex_bl (k_ex_of hex) rfl hl.1 rfl (Nat.le_of_ble_eq_true rfl) dX0_stroke_1 ⟨Nat.le_of_ble_eq_true rfl, Nat.le_of_ble_eq_true rfl⟩ (fun E h => by obtain ⟨rfl, h⟩ := h; rw [cd2_1 h]; exact List.mem_cons_self) ht hlocks (Nat.le_of_ble_eq_true rfl) (Nat.le_of_ble_eq_true rfl) (fun c_1 => ?_)
  obtain ⟨g', hg', rfl⟩ := inB_ex (by decide) (c_1)
  refine lv_iload_n hx hb dX0_stroke_4 rfl (lv_at hl 2 rfl) ?_
  refine lv_iload_n hx hb dX0_stroke_5 rfl (lv_at hl 3 rfl) ?_
  refine lv_iload hx hb dX0_stroke_6 (lv_at hl 4 rfl) ?_
  refine lv_iload hx hb dX0_stroke_8 (lv_at hl 5 rfl) ?_
  refine k_reqS (As := [.int a, .int b, .int c0, .int d0]) (rest := []) ⟨hx, hb, hml, hown, hts⟩ (c_X0_requireLine l hst a b c0 d0) (va_cwS 4 hts gX0_stroke_X0_requireLine rfl rfl rfl (by decide +kernel) ⟨Nat.le_of_ble_eq_true rfl, Nat.le_of_ble_eq_true rfl⟩) k_ex_bl (k_ex_of hex) rfl hl.1 rfl (Nat.le_of_ble_eq_true rfl) dX0_stroke_10 ⟨Nat.le_of_ble_eq_true rfl, Nat.le_of_ble_eq_true rfl⟩ (fun E h => by obtain ⟨rfl, h⟩ := h; rw [cd2_2 c_1 h]; exact List.mem_cons_of_mem _ List.mem_cons_self) ht hlocks (Nat.le_of_ble_eq_true rfl) (Nat.le_of_ble_eq_true rfl) (fun c_10 => ?_)
  obtain ⟨a', b', c', d', ha', hb', hc', hd', rfl, rfl, rfl, rfl, hln⟩ := lnB_ex c_10
  refine lv_iload_n hx hb dX0_stroke_13 rfl (lv_at hl 2 rfl) ?_
  refine lv_iload_n hx hb dX0_stroke_14 rfl (lv_at hl 3 rfl) ?_
  refine lv_iload hx hb dX0_stroke_15 (lv_at hl 4 rfl) ?_
  refine lv_iload hx hb dX0_stroke_17 (lv_at hl 5 rfl) ?_
  refine k_callSi (As := [.int (nI a'), .int (nI b'), .int (nI c'), .int (nI d')]) (rest := []) ⟨hx, hb, hml, hown, hts⟩ (c_X0_lineCells l a' b' c' d' (by omega) (by omega) (by omega) (by omega)) (va_cwS 4 hts gX0_stroke_X0_lineCells rfl rfl rfl (by decide +kernel) ⟨Nat.le_of_ble_eq_true rfl, Nat.le_of_ble_eq_true rfl⟩) k_bl_tt (fun _ _ _ => trivial) rfl hl.1 rfl (Nat.le_of_ble_eq_true rfl) dX0_stroke_19 ⟨Nat.le_of_ble_eq_true rfl, Nat.le_of_ble_eq_true rfl⟩ ?_
  refine lv_istore (lv' := [(7, .int (lcN a' b' c' d')), (0, .ref (q 0)), (1, .int (nI g')), (2, .int (nI a')), (3, .int (nI b')), (4, .int (nI c')), (5, .int (nI d')), (6, .int bk)]) hx hb dX0_stroke_22 hl (by decide) rfl (fun ls hl => ?_)
  refine lv_aload_n hx hb dX0_stroke_24 rfl (lv_at hl 1 rfl) ?_
  refine va_get (D := D) (ci := 0) (v := .ref (q 1)) (C := RX0) (T := TX0) (N := 10) hx hb hts hin hown hK hP 0 rfl rfl 0 (by decide) (hts (.fieldLink RX0 9 "SignRail" "shapes" "[I") (by decide +kernel)) (fun _ h9 => h9) rfl dX0_stroke_25 ?_
  refine lv_iload_n hx hb dX0_stroke_28 rfl (lv_at hl 2 rfl) ?_
  refine n_iald hx hb hK hP 1 0 rfl rfl (k := g') (by omega) (Nat.le_of_ble_eq_true rfl) dX0_stroke_29 ?_
  refine lv_istore (lv' := [(8, .int (sh g')), (7, .int (lcN a' b' c' d')), (0, .ref (q 0)), (1, .int (nI g')), (2, .int (nI a')), (3, .int (nI b')), (4, .int (nI c')), (5, .int (nI d')), (6, .int bk)]) hx hb dX0_stroke_30 hl (by decide) rfl (fun ls hl => ?_)
  refine lv_iload hx hb dX0_stroke_32 (lv_at hl 8 rfl) ?_
  refine lv_if_eq (tgt := 45) hx hb dX0_stroke_34 (by decide) (fun c_34 => ?_) (fun c_34 => ?_)
  · refine lv_iload hx hb dX0_stroke_45 (lv_at hl 0 rfl) ?_
    refine lv_iload hx hb dX0_stroke_47 (lv_at hl 1 rfl) ?_
    refine lv_iconst (v := (-1)) hx hb dX0_stroke_49 (by decide) ?_
    refine lv_ixor hx hb dX0_stroke_50 ?_
    refine lv_iand hx hb dX0_stroke_51 ?_
    refine lv_as (y := stk bk (sh g') (lcN a' b' c' d')) ((if_pos c_34).symm) ?_
    refine lv_istore (lv' := [(9, .int (stk bk (sh g') (lcN a' b' c' d'))), (8, .int (sh g')), (7, .int (lcN a' b' c' d')), (0, .ref (q 0)), (1, .int (nI g')), (2, .int (nI a')), (3, .int (nI b')), (4, .int (nI c')), (5, .int (nI d')), (6, .int bk)]) hx hb dX0_stroke_52 hl (by decide) rfl (fun ls hl => ?_)
    refine lv_aload_n hx hb dX0_stroke_54 rfl (lv_at hl 3 rfl) ?_
    refine va_get (D := D) (ci := 0) (v := .ref (q 1)) (C := RX0) (T := TX0) (N := 10) hx hb hts hin hown hK hP 0 rfl rfl 0 (by decide) (hts (.fieldLink RX0 9 "SignRail" "shapes" "[I") (by decide +kernel)) (fun _ h9 => h9) rfl dX0_stroke_55 ?_
    refine lv_iload_n hx hb dX0_stroke_58 rfl (lv_at hl 4 rfl) ?_
    refine lv_iload hx hb dX0_stroke_59 (lv_at hl 0 rfl) ?_
    refine n_iast hx hb hK hP hD hS 1 0 rfl rfl (k := g') (by omega) (Nat.le_of_ble_eq_true rfl) dX0_stroke_61 (fun H locs hP hD hS => ?_)
    have hP : va_P D vwCl (wx cI q (upd sh g' (stk bk (sh g') (lcN a' b' c' d'))) sp ld nm tx ds ct co kg ks) H := hP
    have hD : va_D _ (wx cI q (upd sh g' (stk bk (sh g') (lcN a' b' c' d'))) sp ld nm tx ds ct co kg ks) := hD
    refine lv_aload_n hx hb dX0_stroke_62 rfl (lv_at hl 3 rfl) ?_
    refine k_callVW (wr := []) (As := []) (rest := []) ⟨hx, hb, hml, hown, hts⟩ (c_X0_forgetWalks l D cI q (upd sh g' (stk bk (sh g') (lcN a' b' c' d'))) sp ld nm tx ds ct co kg ks (k_D_tt hD)) (cwV 0 hts gX0_stroke_X0_forgetWalks rfl rfl rfl (by decide +kernel) ⟨Nat.le_of_ble_eq_true rfl, Nat.le_of_ble_eq_true rfl⟩) k_B_bl (k_B_of hP hK) (va_recv hK hP (ci := 0) (q0 := 0) rfl rfl) rfl hl.1 rfl (Nat.le_of_ble_eq_true rfl) dX0_stroke_63 ⟨Nat.le_of_ble_eq_true rfl, Nat.le_of_ble_eq_true rfl⟩ hP hD hS [] [0, 1, 2, 3, 4, 5, 6, 7, 8] rfl rfl (fun _ => rfl) (fun u_63 H locs hu_63 hP hD hS hsz hkp => ?_)
    have hP : va_P D vwCl (wx cI q (upd sh g' (stk bk (sh g') (lcN a' b' c' d'))) sp ld nm tx ds ct co (nI 0) ks) H := hP
    have hD : va_D _ (wx cI q (upd sh g' (stk bk (sh g') (lcN a' b' c' d'))) sp ld nm tx ds ct co (nI 0) ks) := hD
    refine lv_iload hx hb dX0_stroke_66 (lv_at hl 1 rfl) ?_
    refine lv_iload hx hb dX0_stroke_68 (lv_at hl 0 rfl) ?_
    refine k_callSi (As := [.int (sh g'), .int (stk bk (sh g') (lcN a' b' c' d'))]) (rest := []) ⟨hx, hb, hml, hown, hts⟩ (c_X0_differing l (sh g') (stk bk (sh g') (lcN a' b' c' d')) (hsh _ hg') (S25_stk (hsh _ hg') (S25_of (lc_25 a' ha' b' hb' c' hc' d' hd' hln)))) (va_cwS 2 hts gX0_stroke_X0_differing rfl rfl rfl (by decide +kernel) ⟨Nat.le_of_ble_eq_true rfl, Nat.le_of_ble_eq_true rfl⟩) k_bl_tt (fun _ _ _ => trivial) rfl hl.1 rfl (Nat.le_of_ble_eq_true rfl) dX0_stroke_70 ⟨Nat.le_of_ble_eq_true rfl, Nat.le_of_ble_eq_true rfl⟩ ?_
    exact vx_ret (k_wiret (g', a', b', c', d')  hx hb hr hlocks dX0_stroke_73 (⟨cd2_0 c_1 c_10, hg', rfl, ha', hb', hc', hd', rfl, rfl, rfl, rfl, hln⟩) rfl hP hS (Nat.le_of_ble_eq_true rfl) (Nat.le_of_ble_eq_true rfl))
  · refine lv_iload hx hb dX0_stroke_37 (lv_at hl 0 rfl) ?_
    refine lv_iload hx hb dX0_stroke_39 (lv_at hl 1 rfl) ?_
    refine lv_ior hx hb dX0_stroke_41 ?_
    refine lv_as (y := stk bk (sh g') (lcN a' b' c' d')) ((if_neg c_34).symm) ?_
    refine lv_goto (tgt := 52) hx hb dX0_stroke_42 (by decide) ?_
    refine lv_istore (lv' := [(9, .int (stk bk (sh g') (lcN a' b' c' d'))), (8, .int (sh g')), (7, .int (lcN a' b' c' d')), (0, .ref (q 0)), (1, .int (nI g')), (2, .int (nI a')), (3, .int (nI b')), (4, .int (nI c')), (5, .int (nI d')), (6, .int bk)]) hx hb dX0_stroke_52 hl (by decide) rfl (fun ls hl => ?_)
    refine lv_aload_n hx hb dX0_stroke_54 rfl (lv_at hl 3 rfl) ?_
    refine va_get (D := D) (ci := 0) (v := .ref (q 1)) (C := RX0) (T := TX0) (N := 10) hx hb hts hin hown hK hP 0 rfl rfl 0 (by decide) (hts (.fieldLink RX0 9 "SignRail" "shapes" "[I") (by decide +kernel)) (fun _ h9 => h9) rfl dX0_stroke_55 ?_
    refine lv_iload_n hx hb dX0_stroke_58 rfl (lv_at hl 4 rfl) ?_
    refine lv_iload hx hb dX0_stroke_59 (lv_at hl 0 rfl) ?_
    refine n_iast hx hb hK hP hD hS 1 0 rfl rfl (k := g') (by omega) (Nat.le_of_ble_eq_true rfl) dX0_stroke_61 (fun H locs hP hD hS => ?_)
    have hP : va_P D vwCl (wx cI q (upd sh g' (stk bk (sh g') (lcN a' b' c' d'))) sp ld nm tx ds ct co kg ks) H := hP
    have hD : va_D _ (wx cI q (upd sh g' (stk bk (sh g') (lcN a' b' c' d'))) sp ld nm tx ds ct co kg ks) := hD
    refine lv_aload_n hx hb dX0_stroke_62 rfl (lv_at hl 3 rfl) ?_
    refine k_callVW (wr := []) (As := []) (rest := []) ⟨hx, hb, hml, hown, hts⟩ (c_X0_forgetWalks l D cI q (upd sh g' (stk bk (sh g') (lcN a' b' c' d'))) sp ld nm tx ds ct co kg ks (k_D_tt hD)) (cwV 0 hts gX0_stroke_X0_forgetWalks rfl rfl rfl (by decide +kernel) ⟨Nat.le_of_ble_eq_true rfl, Nat.le_of_ble_eq_true rfl⟩) k_B_bl (k_B_of hP hK) (va_recv hK hP (ci := 0) (q0 := 0) rfl rfl) rfl hl.1 rfl (Nat.le_of_ble_eq_true rfl) dX0_stroke_63 ⟨Nat.le_of_ble_eq_true rfl, Nat.le_of_ble_eq_true rfl⟩ hP hD hS [] [0, 1, 2, 3, 4, 5, 6, 7, 8] rfl rfl (fun _ => rfl) (fun u_63 H locs hu_63 hP hD hS hsz hkp => ?_)
    have hP : va_P D vwCl (wx cI q (upd sh g' (stk bk (sh g') (lcN a' b' c' d'))) sp ld nm tx ds ct co (nI 0) ks) H := hP
    have hD : va_D _ (wx cI q (upd sh g' (stk bk (sh g') (lcN a' b' c' d'))) sp ld nm tx ds ct co (nI 0) ks) := hD
    refine lv_iload hx hb dX0_stroke_66 (lv_at hl 1 rfl) ?_
    refine lv_iload hx hb dX0_stroke_68 (lv_at hl 0 rfl) ?_
    refine k_callSi (As := [.int (sh g'), .int (stk bk (sh g') (lcN a' b' c' d'))]) (rest := []) ⟨hx, hb, hml, hown, hts⟩ (c_X0_differing l (sh g') (stk bk (sh g') (lcN a' b' c' d')) (hsh _ hg') (S25_stk (hsh _ hg') (S25_of (lc_25 a' ha' b' hb' c' hc' d' hd' hln)))) (va_cwS 2 hts gX0_stroke_X0_differing rfl rfl rfl (by decide +kernel) ⟨Nat.le_of_ble_eq_true rfl, Nat.le_of_ble_eq_true rfl⟩) k_bl_tt (fun _ _ _ => trivial) rfl hl.1 rfl (Nat.le_of_ble_eq_true rfl) dX0_stroke_70 ⟨Nat.le_of_ble_eq_true rfl, Nat.le_of_ble_eq_true rfl⟩ ?_
    exact vx_ret (k_wiret (g', a', b', c', d')  hx hb hr hlocks dX0_stroke_73 (⟨cd2_0 c_1 c_10, hg', rfl, ha', hb', hc', hd', rfl, rfl, rfl, rfl, hln⟩) rfl hP hS (Nat.le_of_ble_eq_true rfl) (Nat.le_of_ble_eq_true rfl))
set_option maxHeartbeats 4000000 in
set_option maxRecDepth 100000 in
theorem c_X0_difference (l : Launch) (hst : l.stackTraces = false) (D : va_G) (cI : ClassId) (q : Nat → Nat) (sh sp ld nm tx ds ct : Nat → Int32) (co : Int64) (kg : Int32) (ks : Nat → Int32) (i j : Int32) (hsh : ∀ g, g < 8 → S25 (sh g)) (hDt : va_D (fun _ => True) (wx cI q sh sp ld nm tx ds ct co kg ks)) : vx_Met l yX0_difference wsX0_difference ({ frames := 7, cells := 8, slots := 48, locals := 110 } : Room) (k_P [.ref (q 0), .int i, .int j] (fun U => k_B D (wx cI q sh sp ld nm tx ds ct co kg ks) [(cI, .int)] U ∧ k_ex U)) (k_WQ D (wx cI q sh sp ld nm tx ds ct co kg ks) (fun u : Nat × Nat => cd1 (inB i 8 && inB j 8) = 0 ∧ u.1 < 8 ∧ i = nI u.1 ∧ u.2 < 8 ∧ j = nI u.2) (fun u => wx cI q sh sp ld nm tx ds ct co kg ks) (fun u => some (.int (df (sh u.1) (sh u.2))))) (k_XC (fun E => (E, cd1 (inB i 8 && inB j 8)) ∈ ([(k_IO, 1)] : List (String × Nat)))) 8 48 (k_A (wx cI q sh sp ld nm tx ds ct co kg ks)) := by
  refine k_headX (cc := cX0_difference) (maxL := 3) (ret := (some .int)) [(0, .ref (q 0)), (1, .int i), (2, .int j)] (by decide) rfl (Nat.le_of_ble_eq_true rfl) rfl ?_
  intro p e s m below meth c ls hx hb hr hml hown hts hlocks ht hB hl
  have hown : s.vm.findClass RX0 = some m.cls := hown
  obtain ⟨⟨hP, hK⟩, hex⟩ := hB
  have hin : ∀ w ∈ wsX00, w ∈ wsX0_difference := fun w h => List.mem_cons_of_mem _ (List.mem_append_left _ (List.mem_append_right _ h))
  have hD := k_A_D hDt
  have hS : va_S (k_A (wx cI q sh sp ld nm tx ds ct co kg ks)) s.heap s.heap [] := va_S.rf
  refine lv_iload_n hx hb dX0_difference_0 rfl (lv_at hl 1 rfl) ?_
  refine k_reqS (As := [.int i]) (rest := []) ⟨hx, hb, hml, hown, hts⟩ (c_X0_requireGlyph l hst i) (va_cwS 1 hts gX0_difference_X0_requireGlyph rfl rfl rfl (by decide +kernel) ⟨Nat.le_of_ble_eq_true rfl, Nat.le_of_ble_eq_true rfl⟩) k_ex_bl (k_ex_of hex) rfl hl.1 rfl (Nat.le_of_ble_eq_true rfl) dX0_difference_1 ⟨Nat.le_of_ble_eq_true rfl, Nat.le_of_ble_eq_true rfl⟩ (fun E h => by obtain ⟨rfl, h⟩ := h; rw [cd1_1 (and_l h)]; exact List.mem_cons_self) ht hlocks (Nat.le_of_ble_eq_true rfl) (Nat.le_of_ble_eq_true rfl) (fun c_1 => ?_)
  obtain ⟨i', hi', rfl⟩ := inB_ex (by decide) (c_1)
  refine lv_iload_n hx hb dX0_difference_4 rfl (lv_at hl 2 rfl) ?_
  refine k_reqS (As := [.int j]) (rest := []) ⟨hx, hb, hml, hown, hts⟩ (c_X0_requireGlyph l hst j) (va_cwS 1 hts gX0_difference_X0_requireGlyph rfl rfl rfl (by decide +kernel) ⟨Nat.le_of_ble_eq_true rfl, Nat.le_of_ble_eq_true rfl⟩) k_ex_bl (k_ex_of hex) rfl hl.1 rfl (Nat.le_of_ble_eq_true rfl) dX0_difference_5 ⟨Nat.le_of_ble_eq_true rfl, Nat.le_of_ble_eq_true rfl⟩ (fun E h => by obtain ⟨rfl, h⟩ := h; rw [cd1_1 (and_r h)]; exact List.mem_cons_self) ht hlocks (Nat.le_of_ble_eq_true rfl) (Nat.le_of_ble_eq_true rfl) (fun c_5 => ?_)
  obtain ⟨j', hj', rfl⟩ := inB_ex (by decide) (c_5)
  refine lv_aload_n hx hb dX0_difference_8 rfl (lv_at hl 0 rfl) ?_
  refine va_get (D := D) (ci := 0) (v := .ref (q 1)) (C := RX0) (T := TX0) (N := 10) hx hb hts hin hown hK hP 0 rfl rfl 0 (by decide) (hts (.fieldLink RX0 9 "SignRail" "shapes" "[I") (by decide +kernel)) (fun _ h9 => h9) rfl dX0_difference_9 ?_
  refine lv_iload_n hx hb dX0_difference_12 rfl (lv_at hl 1 rfl) ?_
  refine n_iald hx hb hK hP 1 0 rfl rfl (k := i') (by omega) (Nat.le_of_ble_eq_true rfl) dX0_difference_13 ?_
  refine lv_aload_n hx hb dX0_difference_14 rfl (lv_at hl 0 rfl) ?_
  refine va_get (D := D) (ci := 0) (v := .ref (q 1)) (C := RX0) (T := TX0) (N := 10) hx hb hts hin hown hK hP 0 rfl rfl 0 (by decide) (hts (.fieldLink RX0 9 "SignRail" "shapes" "[I") (by decide +kernel)) (fun _ h9 => h9) rfl dX0_difference_15 ?_
  refine lv_iload_n hx hb dX0_difference_18 rfl (lv_at hl 2 rfl) ?_
  refine n_iald hx hb hK hP 1 0 rfl rfl (k := j') (by omega) (Nat.le_of_ble_eq_true rfl) dX0_difference_19 ?_
  refine k_callSi (As := [.int (sh i'), .int (sh j')]) (rest := []) ⟨hx, hb, hml, hown, hts⟩ (c_X0_differing l (sh i') (sh j') (hsh _ hi') (hsh _ hj')) (va_cwS 2 hts gX0_difference_X0_differing rfl rfl rfl (by decide +kernel) ⟨Nat.le_of_ble_eq_true rfl, Nat.le_of_ble_eq_true rfl⟩) k_bl_tt (fun _ _ _ => trivial) rfl hl.1 rfl (Nat.le_of_ble_eq_true rfl) dX0_difference_20 ⟨Nat.le_of_ble_eq_true rfl, Nat.le_of_ble_eq_true rfl⟩ ?_
  exact vx_ret (k_wiret (i', j')  hx hb hr hlocks dX0_difference_23 (⟨cd1_0 (and_t c_1 c_5), hi', rfl, hj', rfl⟩) rfl hP hS (Nat.le_of_ble_eq_true rfl) (Nat.le_of_ble_eq_true rfl))
set_option maxHeartbeats 4000000 in
set_option maxRecDepth 100000 in
theorem c_X0_width (l : Launch) (hst : l.stackTraces = false) (D : va_G) (cI : ClassId) (q : Nat → Nat) (sh sp ld nm tx ds ct : Nat → Int32) (co : Int64) (kg : Int32) (ks : Nat → Int32) (g : Int32) (hDt : va_D (fun _ => True) (wx cI q sh sp ld nm tx ds ct co kg ks)) : vx_Met l yX0_width wsX0_width ({ frames := 7, cells := 8, slots := 48, locals := 110 } : Room) (k_P [.ref (q 0), .int g] (fun U => k_B D (wx cI q sh sp ld nm tx ds ct co kg ks) [(cI, .int)] U ∧ k_ex U)) (k_WQ D (wx cI q sh sp ld nm tx ds ct co kg ks) (fun u : Nat => cd1 (inB g 8) = 0 ∧ u < 8 ∧ g = nI u) (fun u => wx cI q sh sp ld nm tx ds ct co kg ks) (fun u => some (.int (wdF (hcC (sh u)))))) (k_XC (fun E => (E, cd1 (inB g 8)) ∈ ([(k_IO, 1)] : List (String × Nat)))) 8 48 (k_A (wx cI q sh sp ld nm tx ds ct co kg ks)) := by
  refine k_headX (cc := cX0_width) (maxL := 2) (ret := (some .int)) [(0, .ref (q 0)), (1, .int g)] (by decide) rfl (Nat.le_of_ble_eq_true rfl) rfl ?_
  intro p e s m below meth c ls hx hb hr hml hown hts hlocks ht hB hl
  have hown : s.vm.findClass RX0 = some m.cls := hown
  obtain ⟨⟨hP, hK⟩, hex⟩ := hB
  have hin : ∀ w ∈ wsX00, w ∈ wsX0_width := fun w h => List.mem_cons_of_mem _ (List.mem_append_left _ (List.mem_append_right _ h))
  have hD := k_A_D hDt
  have hS : va_S (k_A (wx cI q sh sp ld nm tx ds ct co kg ks)) s.heap s.heap [] := va_S.rf
  refine lv_iload_n hx hb dX0_width_0 rfl (lv_at hl 1 rfl) ?_
  refine k_reqS (As := [.int g]) (rest := []) ⟨hx, hb, hml, hown, hts⟩ (c_X0_requireGlyph l hst g) (va_cwS 1 hts gX0_width_X0_requireGlyph rfl rfl rfl (by decide +kernel) ⟨Nat.le_of_ble_eq_true rfl, Nat.le_of_ble_eq_true rfl⟩) k_ex_bl (k_ex_of hex) rfl hl.1 rfl (Nat.le_of_ble_eq_true rfl) dX0_width_1 ⟨Nat.le_of_ble_eq_true rfl, Nat.le_of_ble_eq_true rfl⟩ (fun E h => by obtain ⟨rfl, h⟩ := h; rw [cd1_1 h]; exact List.mem_cons_self) ht hlocks (Nat.le_of_ble_eq_true rfl) (Nat.le_of_ble_eq_true rfl) (fun c_1 => ?_)
  obtain ⟨g', hg', rfl⟩ := inB_ex (by decide) (c_1)
  refine lv_aload_n hx hb dX0_width_4 rfl (lv_at hl 0 rfl) ?_
  refine va_get (D := D) (ci := 0) (v := .ref (q 1)) (C := RX0) (T := TX0) (N := 10) hx hb hts hin hown hK hP 0 rfl rfl 0 (by decide) (hts (.fieldLink RX0 9 "SignRail" "shapes" "[I") (by decide +kernel)) (fun _ h9 => h9) rfl dX0_width_5 ?_
  refine lv_iload_n hx hb dX0_width_8 rfl (lv_at hl 1 rfl) ?_
  refine n_iald hx hb hK hP 1 0 rfl rfl (k := g') (by omega) (Nat.le_of_ble_eq_true rfl) dX0_width_9 ?_
  refine k_callSi (As := [.int (sh g')]) (rest := []) ⟨hx, hb, hml, hown, hts⟩ (c_X0_shapeWidth l (sh g')) (va_cwS 1 hts gX0_width_X0_shapeWidth rfl rfl rfl (by decide +kernel) ⟨Nat.le_of_ble_eq_true rfl, Nat.le_of_ble_eq_true rfl⟩) k_bl_tt (fun _ _ _ => trivial) rfl hl.1 rfl (Nat.le_of_ble_eq_true rfl) dX0_width_10 ⟨Nat.le_of_ble_eq_true rfl, Nat.le_of_ble_eq_true rfl⟩ ?_
  exact vx_ret (k_wiret (g')  hx hb hr hlocks dX0_width_13 (⟨cd1_0 c_1, hg', rfl⟩) rfl hP hS (Nat.le_of_ble_eq_true rfl) (Nat.le_of_ble_eq_true rfl))
set_option maxHeartbeats 4000000 in
set_option maxRecDepth 100000 in
theorem c_X0_space (l : Launch) (hst : l.stackTraces = false) (D : va_G) (cI : ClassId) (q : Nat → Nat) (sh sp ld nm tx ds ct : Nat → Int32) (co : Int64) (kg : Int32) (ks : Nat → Int32) (i j v : Int32) (hDt : va_D (fun _ => True) (wx cI q sh sp ld nm tx ds ct co kg ks)) : vx_Met l yX0_space wsX0_space ({ frames := 7, cells := 8, slots := 48, locals := 110 } : Room) (k_P [.ref (q 0), .int i, .int j, .int v] (fun U => k_B D (wx cI q sh sp ld nm tx ds ct co kg ks) [(cI, .int)] U ∧ k_ex U)) (k_WQ D (wx cI q sh sp ld nm tx ds ct co kg ks) (fun u : Nat × Nat => cd2 (inB i 8 && inB j 8) (rgB v (-1) (nI 3)) = 0 ∧ u.1 < 8 ∧ i = nI u.1 ∧ u.2 < 8 ∧ j = nI u.2) (fun u => wx cI q sh (upd sp (u.1 * 8 + u.2) v) ld nm tx ds ct co kg ks) (fun u => some (.int (sp (u.1 * 8 + u.2))))) (k_XC (fun E => (E, cd2 (inB i 8 && inB j 8) (rgB v (-1) (nI 3))) ∈ ([(k_IO, 1), (k_IA, 2)] : List (String × Nat)))) 8 48 (k_A (wx cI q sh sp ld nm tx ds ct co kg ks)) := by
  refine k_headX (cc := cX0_space) (maxL := 6) (ret := (some .int)) [(0, .ref (q 0)), (1, .int i), (2, .int j), (3, .int v)] (by decide) rfl (Nat.le_of_ble_eq_true rfl) rfl ?_
  intro p e s m below meth c ls hx hb hr hml hown hts hlocks ht hB hl
  have hown : s.vm.findClass RX0 = some m.cls := hown
  obtain ⟨⟨hP, hK⟩, hex⟩ := hB
  have hin : ∀ w ∈ wsX00, w ∈ wsX0_space := fun w h => List.mem_cons_of_mem _ (List.mem_append_left _ (List.mem_append_left _ (List.mem_append_right _ h)))
  have hD := k_A_D hDt
  have hS : va_S (k_A (wx cI q sh sp ld nm tx ds ct co kg ks)) s.heap s.heap [] := va_S.rf
  refine lv_iload_n hx hb dX0_space_0 rfl (lv_at hl 1 rfl) ?_
  refine k_reqS (As := [.int i]) (rest := []) ⟨hx, hb, hml, hown, hts⟩ (c_X0_requireGlyph l hst i) (va_cwS 1 hts gX0_space_X0_requireGlyph rfl rfl rfl (by decide +kernel) ⟨Nat.le_of_ble_eq_true rfl, Nat.le_of_ble_eq_true rfl⟩) k_ex_bl (k_ex_of hex) rfl hl.1 rfl (Nat.le_of_ble_eq_true rfl) dX0_space_1 ⟨Nat.le_of_ble_eq_true rfl, Nat.le_of_ble_eq_true rfl⟩ (fun E h => by obtain ⟨rfl, h⟩ := h; rw [cd2_1 (and_l h)]; exact List.mem_cons_self) ht hlocks (Nat.le_of_ble_eq_true rfl) (Nat.le_of_ble_eq_true rfl) (fun c_1 => ?_)
  obtain ⟨i', hi', rfl⟩ := inB_ex (by decide) (c_1)
  refine lv_iload_n hx hb dX0_space_4 rfl (lv_at hl 2 rfl) ?_
  refine k_reqS (As := [.int j]) (rest := []) ⟨hx, hb, hml, hown, hts⟩ (c_X0_requireGlyph l hst j) (va_cwS 1 hts gX0_space_X0_requireGlyph rfl rfl rfl (by decide +kernel) ⟨Nat.le_of_ble_eq_true rfl, Nat.le_of_ble_eq_true rfl⟩) k_ex_bl (k_ex_of hex) rfl hl.1 rfl (Nat.le_of_ble_eq_true rfl) dX0_space_5 ⟨Nat.le_of_ble_eq_true rfl, Nat.le_of_ble_eq_true rfl⟩ (fun E h => by obtain ⟨rfl, h⟩ := h; rw [cd2_1 (and_r h)]; exact List.mem_cons_self) ht hlocks (Nat.le_of_ble_eq_true rfl) (Nat.le_of_ble_eq_true rfl) (fun c_5 => ?_)
  obtain ⟨j', hj', rfl⟩ := inB_ex (by decide) (c_5)
  refine lv_iload_n hx hb dX0_space_8 rfl (lv_at hl 3 rfl) ?_
  refine lv_iconst (v := (-1)) hx hb dX0_space_9 (by decide) ?_
  refine lv_icmp_lt (tgt := 18) hx hb dX0_space_10 (by decide) (fun c_10 => ?_) (fun c_10 => ?_)
  · exact k_throw (cls := k_IA) (text := "no such space") (ik := 71) (is := 73) (ic := 75) hx hb hst hown (by decide) (hts (.classLink RX0 71 k_IA) (by decide +kernel)) (hts (.initialized k_IA) (by decide +kernel)) hex (by decide) (fun w h => hts w (List.mem_cons_of_mem _ (List.mem_append_left _ (List.mem_append_right _ h)))) k_ngIA k_gdIA (hl.1.trans hml.symm) dX0_space_18 dX0_space_21 dX0_space_22 dX0_space_24 dX0_space_27 ht (Nat.le_of_ble_eq_true rfl) (Nat.le_of_ble_eq_true rfl) (Nat.le_of_ble_eq_true rfl) (Nat.le_of_ble_eq_true rfl) hlocks (by rw [cd2_2 (and_t c_1 c_5) (by first | (simp [rgB, c_10]; done) | (simp [rgB, fa_of_nle c_15]; done))]; exact List.mem_cons_of_mem _ List.mem_cons_self) (Nat.le_of_ble_eq_true rfl) (Nat.le_of_ble_eq_true rfl)
  · refine lv_iload_n hx hb dX0_space_13 rfl (lv_at hl 3 rfl) ?_
    refine lv_iconst (v := nI 3) hx hb dX0_space_14 (by decide) ?_
    refine lv_icmp_le (tgt := 28) hx hb dX0_space_15 (by decide) (fun c_15 => ?_) (fun c_15 => ?_)
    · refine lv_iload_n hx hb dX0_space_28 rfl (lv_at hl 1 rfl) ?_
      refine lv_iload_n hx hb dX0_space_29 rfl (lv_at hl 2 rfl) ?_
      refine k_callSi (As := [.int (nI i'), .int (nI j')]) (rest := []) ⟨hx, hb, hml, hown, hts⟩ (c_X0_pairOf l i' j') (va_cwS 2 hts gX0_space_X0_pairOf rfl rfl rfl (by decide +kernel) ⟨Nat.le_of_ble_eq_true rfl, Nat.le_of_ble_eq_true rfl⟩) k_bl_tt (fun _ _ _ => trivial) rfl hl.1 rfl (Nat.le_of_ble_eq_true rfl) dX0_space_30 ⟨Nat.le_of_ble_eq_true rfl, Nat.le_of_ble_eq_true rfl⟩ ?_
      refine lv_istore (lv' := [(4, .int (nI (i' * 8 + j'))), (0, .ref (q 0)), (1, .int (nI i')), (2, .int (nI j')), (3, .int v)]) hx hb dX0_space_33 hl (by decide) rfl (fun ls hl => ?_)
      refine lv_aload_n hx hb dX0_space_35 rfl (lv_at hl 1 rfl) ?_
      refine va_get (D := D) (ci := 0) (v := .ref (q 2)) (C := RX0) (T := TX0) (N := 10) hx hb hts hin hown hK hP 0 rfl rfl 1 (by decide) (hts (.fieldLink RX0 13 "SignRail" "spaces" "[I") (by decide +kernel)) (fun _ h9 => h9) rfl dX0_space_36 ?_
      refine lv_iload hx hb dX0_space_39 (lv_at hl 0 rfl) ?_
      refine n_iald hx hb hK hP 2 0 rfl rfl (k := (i' * 8 + j')) (by omega) (Nat.le_of_ble_eq_true rfl) dX0_space_41 ?_
      refine lv_istore (lv' := [(5, .int (sp (i' * 8 + j'))), (4, .int (nI (i' * 8 + j'))), (0, .ref (q 0)), (1, .int (nI i')), (2, .int (nI j')), (3, .int v)]) hx hb dX0_space_42 hl (by decide) rfl (fun ls hl => ?_)
      refine lv_aload_n hx hb dX0_space_44 rfl (lv_at hl 2 rfl) ?_
      refine va_get (D := D) (ci := 0) (v := .ref (q 2)) (C := RX0) (T := TX0) (N := 10) hx hb hts hin hown hK hP 0 rfl rfl 1 (by decide) (hts (.fieldLink RX0 13 "SignRail" "spaces" "[I") (by decide +kernel)) (fun _ h9 => h9) rfl dX0_space_45 ?_
      refine lv_iload hx hb dX0_space_48 (lv_at hl 1 rfl) ?_
      refine lv_iload_n hx hb dX0_space_50 rfl (lv_at hl 5 rfl) ?_
      refine n_iast hx hb hK hP hD hS 2 0 rfl rfl (k := (i' * 8 + j')) (by omega) (Nat.le_of_ble_eq_true rfl) dX0_space_51 (fun H locs hP hD hS => ?_)
      have hP : va_P D vwCl (wx cI q sh (upd sp (i' * 8 + j') v) ld nm tx ds ct co kg ks) H := hP
      have hD : va_D _ (wx cI q sh (upd sp (i' * 8 + j') v) ld nm tx ds ct co kg ks) := hD
      refine lv_iload hx hb dX0_space_52 (lv_at hl 0 rfl) ?_
      exact vx_ret (k_wiret (i', j')  hx hb hr hlocks dX0_space_54 (⟨cd2_0 (and_t c_1 c_5) (decide_eq_true ⟨c_10, le_nlt c_15⟩), hi', rfl, hj', rfl⟩) rfl hP hS (Nat.le_of_ble_eq_true rfl) (Nat.le_of_ble_eq_true rfl))
    · exact k_throw (cls := k_IA) (text := "no such space") (ik := 71) (is := 73) (ic := 75) hx hb hst hown (by decide) (hts (.classLink RX0 71 k_IA) (by decide +kernel)) (hts (.initialized k_IA) (by decide +kernel)) hex (by decide) (fun w h => hts w (List.mem_cons_of_mem _ (List.mem_append_left _ (List.mem_append_right _ h)))) k_ngIA k_gdIA (hl.1.trans hml.symm) dX0_space_18 dX0_space_21 dX0_space_22 dX0_space_24 dX0_space_27 ht (Nat.le_of_ble_eq_true rfl) (Nat.le_of_ble_eq_true rfl) (Nat.le_of_ble_eq_true rfl) (Nat.le_of_ble_eq_true rfl) hlocks (by rw [cd2_2 (and_t c_1 c_5) (by first | (simp [rgB, c_10]; done) | (simp [rgB, fa_of_nle c_15]; done))]; exact List.mem_cons_of_mem _ List.mem_cons_self) (Nat.le_of_ble_eq_true rfl) (Nat.le_of_ble_eq_true rfl)
set_option maxHeartbeats 4000000 in
set_option maxRecDepth 100000 in
theorem c_X0_lead (l : Launch) (hst : l.stackTraces = false) (D : va_G) (cI : ClassId) (q : Nat → Nat) (sh sp ld nm tx ds ct : Nat → Int32) (co : Int64) (kg : Int32) (ks : Nat → Int32) (p0 x0 to : Int32) (hDt : va_D (fun _ => True) (wx cI q sh sp ld nm tx ds ct co kg ks)) : vx_Met l yX0_lead wsX0_lead ({ frames := 8, cells := 8, slots := 48, locals := 131 } : Room) (k_P [.ref (q 0), .int p0, .int x0, .int to] (fun U => k_B D (wx cI q sh sp ld nm tx ds ct co kg ks) [(cI, .int)] U ∧ k_ex U)) (k_WQ D (wx cI q sh sp ld nm tx ds ct co kg ks) (fun u : Nat × Nat × Nat => cd1 ((inB p0 8 && inB x0 4) && (decide (to = -1) || inB to 8)) = 0 ∧ u.1 < 8 ∧ p0 = nI u.1 ∧ u.2.1 < 4 ∧ x0 = nI u.2.1 ∧ u.2.2 ≤ 8 ∧ to = ix u.2.2) (fun u => wx cI q sh sp (upd ld (u.1 * 4 + u.2.1) to) nm tx ds ct co (nI 0) ks) (fun u => some (.int (ld (u.1 * 4 + u.2.1))))) (k_XC (fun E => (E, cd1 ((inB p0 8 && inB x0 4) && (decide (to = -1) || inB to 8))) ∈ ([(k_IO, 1)] : List (String × Nat)))) 8 48 (k_A (wx cI q sh sp ld nm tx ds ct co kg ks)) := by
  refine k_headX (cc := cX0_lead) (maxL := 6) (ret := (some .int)) [(0, .ref (q 0)), (1, .int p0), (2, .int x0), (3, .int to)] (by decide) rfl (Nat.le_of_ble_eq_true rfl) rfl ?_
  intro p e s m below meth c ls hx hb hr hml hown hts hlocks ht hB hl
  have hown : s.vm.findClass RX0 = some m.cls := hown
  obtain ⟨⟨hP, hK⟩, hex⟩ := hB
  have hin : ∀ w ∈ wsX00, w ∈ wsX0_lead := fun w h => List.mem_cons_of_mem _ (List.mem_append_left _ (List.mem_append_right _ h))
  have hD := k_A_D hDt
  have hS : va_S (k_A (wx cI q sh sp ld nm tx ds ct co kg ks)) s.heap s.heap [] := va_S.rf
  refine lv_iload_n hx hb dX0_lead_0 rfl (lv_at hl 1 rfl) ?_
  refine lv_iload_n hx hb dX0_lead_1 rfl (lv_at hl 2 rfl) ?_
  refine k_reqS (As := [.int p0, .int x0]) (rest := []) ⟨hx, hb, hml, hown, hts⟩ (c_X0_requireExit l hst p0 x0) (va_cwS 2 hts gX0_lead_X0_requireExit rfl rfl rfl (by decide +kernel) ⟨Nat.le_of_ble_eq_true rfl, Nat.le_of_ble_eq_true rfl⟩) k_ex_bl (k_ex_of hex) rfl hl.1 rfl (Nat.le_of_ble_eq_true rfl) dX0_lead_2 ⟨Nat.le_of_ble_eq_true rfl, Nat.le_of_ble_eq_true rfl⟩ (fun E h => by obtain ⟨rfl, h⟩ := h; rw [cd1_1 (and_l h)]; exact List.mem_cons_self) ht hlocks (Nat.le_of_ble_eq_true rfl) (Nat.le_of_ble_eq_true rfl) (fun c_2 => ?_)
  obtain ⟨he1, he2⟩ := Bool.and_eq_true_iff.mp c_2
  obtain ⟨p', hp', rfl⟩ := inB_ex (by decide) (he1)
  obtain ⟨x', hx', rfl⟩ := inB_ex (by decide) (he2)
  refine lv_iload_n hx hb dX0_lead_5 rfl (lv_at hl 3 rfl) ?_
  refine lv_iconst (v := (-1)) hx hb dX0_lead_6 (by decide) ?_
  refine lv_icmp_eq (tgt := 14) hx hb dX0_lead_7 (by decide) (fun c_7 => ?_) (fun c_7 => ?_)
  · refine lv_iload_n hx hb dX0_lead_14 rfl (lv_at hl 1 rfl) ?_
    refine lv_iload_n hx hb dX0_lead_15 rfl (lv_at hl 2 rfl) ?_
    refine k_callSi (As := [.int (nI p'), .int (nI x')]) (rest := []) ⟨hx, hb, hml, hown, hts⟩ (c_X0_wayOf l p' x') (va_cwS 2 hts gX0_lead_X0_wayOf rfl rfl rfl (by decide +kernel) ⟨Nat.le_of_ble_eq_true rfl, Nat.le_of_ble_eq_true rfl⟩) k_bl_tt (fun _ _ _ => trivial) rfl hl.1 rfl (Nat.le_of_ble_eq_true rfl) dX0_lead_16 ⟨Nat.le_of_ble_eq_true rfl, Nat.le_of_ble_eq_true rfl⟩ ?_
    refine lv_istore (lv' := [(4, .int (nI (p' * 4 + x'))), (0, .ref (q 0)), (1, .int (nI p')), (2, .int (nI x')), (3, .int to)]) hx hb dX0_lead_19 hl (by decide) rfl (fun ls hl => ?_)
    refine lv_aload_n hx hb dX0_lead_21 rfl (lv_at hl 1 rfl) ?_
    refine va_get (D := D) (ci := 0) (v := .ref (q 3)) (C := RX0) (T := TX0) (N := 10) hx hb hts hin hown hK hP 0 rfl rfl 2 (by decide) (hts (.fieldLink RX0 16 "SignRail" "leads" "[I") (by decide +kernel)) (fun _ h9 => h9) rfl dX0_lead_22 ?_
    refine lv_iload hx hb dX0_lead_25 (lv_at hl 0 rfl) ?_
    refine n_iald hx hb hK hP 3 0 rfl rfl (k := (p' * 4 + x')) (by omega) (Nat.le_of_ble_eq_true rfl) dX0_lead_27 ?_
    refine lv_istore (lv' := [(5, .int (ld (p' * 4 + x'))), (4, .int (nI (p' * 4 + x'))), (0, .ref (q 0)), (1, .int (nI p')), (2, .int (nI x')), (3, .int to)]) hx hb dX0_lead_28 hl (by decide) rfl (fun ls hl => ?_)
    refine lv_aload_n hx hb dX0_lead_30 rfl (lv_at hl 2 rfl) ?_
    refine va_get (D := D) (ci := 0) (v := .ref (q 3)) (C := RX0) (T := TX0) (N := 10) hx hb hts hin hown hK hP 0 rfl rfl 2 (by decide) (hts (.fieldLink RX0 16 "SignRail" "leads" "[I") (by decide +kernel)) (fun _ h9 => h9) rfl dX0_lead_31 ?_
    refine lv_iload hx hb dX0_lead_34 (lv_at hl 1 rfl) ?_
    refine lv_iload_n hx hb dX0_lead_36 rfl (lv_at hl 5 rfl) ?_
    refine n_iast hx hb hK hP hD hS 3 0 rfl rfl (k := (p' * 4 + x')) (by omega) (Nat.le_of_ble_eq_true rfl) dX0_lead_37 (fun H locs hP hD hS => ?_)
    have hP : va_P D vwCl (wx cI q sh sp (upd ld (p' * 4 + x') to) nm tx ds ct co kg ks) H := hP
    have hD : va_D _ (wx cI q sh sp (upd ld (p' * 4 + x') to) nm tx ds ct co kg ks) := hD
    refine lv_aload_n hx hb dX0_lead_38 rfl (lv_at hl 2 rfl) ?_
    refine k_callVW (wr := []) (As := []) (rest := []) ⟨hx, hb, hml, hown, hts⟩ (c_X0_forgetWalks l D cI q sh sp (upd ld (p' * 4 + x') to) nm tx ds ct co kg ks (k_D_tt hD)) (cwV 0 hts gX0_lead_X0_forgetWalks rfl rfl rfl (by decide +kernel) ⟨Nat.le_of_ble_eq_true rfl, Nat.le_of_ble_eq_true rfl⟩) k_B_bl (k_B_of hP hK) (va_recv hK hP (ci := 0) (q0 := 0) rfl rfl) rfl hl.1 rfl (Nat.le_of_ble_eq_true rfl) dX0_lead_39 ⟨Nat.le_of_ble_eq_true rfl, Nat.le_of_ble_eq_true rfl⟩ hP hD hS [] [0, 1, 2, 3, 4, 5, 6, 7, 8] rfl rfl (fun _ => rfl) (fun u_39 H locs hu_39 hP hD hS hsz hkp => ?_)
    have hP : va_P D vwCl (wx cI q sh sp (upd ld (p' * 4 + x') to) nm tx ds ct co (nI 0) ks) H := hP
    have hD : va_D _ (wx cI q sh sp (upd ld (p' * 4 + x') to) nm tx ds ct co (nI 0) ks) := hD
    refine lv_iload hx hb dX0_lead_42 (lv_at hl 0 rfl) ?_
    exact vx_ret (k_wiret (p', x', 8)  hx hb hr hlocks dX0_lead_44 (⟨cd1_0 (and_t c_2 (by rw [c_7]; rfl)), hp', rfl, hx', rfl, Nat.le_refl 8, c_7⟩) rfl hP hS (Nat.le_of_ble_eq_true rfl) (Nat.le_of_ble_eq_true rfl))
  · refine lv_iload_n hx hb dX0_lead_10 rfl (lv_at hl 3 rfl) ?_
    refine k_reqS (As := [.int to]) (rest := []) ⟨hx, hb, hml, hown, hts⟩ (c_X0_requirePlace l hst to) (va_cwS 1 hts gX0_lead_X0_requirePlace rfl rfl rfl (by decide +kernel) ⟨Nat.le_of_ble_eq_true rfl, Nat.le_of_ble_eq_true rfl⟩) k_ex_bl (k_ex_of hex) rfl hl.1 rfl (Nat.le_of_ble_eq_true rfl) dX0_lead_11 ⟨Nat.le_of_ble_eq_true rfl, Nat.le_of_ble_eq_true rfl⟩ (fun E h => by obtain ⟨rfl, h⟩ := h; rw [cd1_1 (and_r (by rw [h, decide_eq_false c_7]; rfl))]; exact List.mem_cons_self) ht hlocks (Nat.le_of_ble_eq_true rfl) (Nat.le_of_ble_eq_true rfl) (fun c_11 => ?_)
    obtain ⟨t', ht', rfl⟩ := inB_ex (by decide) (c_11)
    refine lv_iload_n hx hb dX0_lead_14 rfl (lv_at hl 1 rfl) ?_
    refine lv_iload_n hx hb dX0_lead_15 rfl (lv_at hl 2 rfl) ?_
    refine k_callSi (As := [.int (nI p'), .int (nI x')]) (rest := []) ⟨hx, hb, hml, hown, hts⟩ (c_X0_wayOf l p' x') (va_cwS 2 hts gX0_lead_X0_wayOf rfl rfl rfl (by decide +kernel) ⟨Nat.le_of_ble_eq_true rfl, Nat.le_of_ble_eq_true rfl⟩) k_bl_tt (fun _ _ _ => trivial) rfl hl.1 rfl (Nat.le_of_ble_eq_true rfl) dX0_lead_16 ⟨Nat.le_of_ble_eq_true rfl, Nat.le_of_ble_eq_true rfl⟩ ?_
    refine lv_istore (lv' := [(4, .int (nI (p' * 4 + x'))), (0, .ref (q 0)), (1, .int (nI p')), (2, .int (nI x')), (3, .int (nI t'))]) hx hb dX0_lead_19 hl (by decide) rfl (fun ls hl => ?_)
    refine lv_aload_n hx hb dX0_lead_21 rfl (lv_at hl 1 rfl) ?_
    refine va_get (D := D) (ci := 0) (v := .ref (q 3)) (C := RX0) (T := TX0) (N := 10) hx hb hts hin hown hK hP 0 rfl rfl 2 (by decide) (hts (.fieldLink RX0 16 "SignRail" "leads" "[I") (by decide +kernel)) (fun _ h9 => h9) rfl dX0_lead_22 ?_
    refine lv_iload hx hb dX0_lead_25 (lv_at hl 0 rfl) ?_
    refine n_iald hx hb hK hP 3 0 rfl rfl (k := (p' * 4 + x')) (by omega) (Nat.le_of_ble_eq_true rfl) dX0_lead_27 ?_
    refine lv_istore (lv' := [(5, .int (ld (p' * 4 + x'))), (4, .int (nI (p' * 4 + x'))), (0, .ref (q 0)), (1, .int (nI p')), (2, .int (nI x')), (3, .int (nI t'))]) hx hb dX0_lead_28 hl (by decide) rfl (fun ls hl => ?_)
    refine lv_aload_n hx hb dX0_lead_30 rfl (lv_at hl 2 rfl) ?_
    refine va_get (D := D) (ci := 0) (v := .ref (q 3)) (C := RX0) (T := TX0) (N := 10) hx hb hts hin hown hK hP 0 rfl rfl 2 (by decide) (hts (.fieldLink RX0 16 "SignRail" "leads" "[I") (by decide +kernel)) (fun _ h9 => h9) rfl dX0_lead_31 ?_
    refine lv_iload hx hb dX0_lead_34 (lv_at hl 1 rfl) ?_
    refine lv_iload_n hx hb dX0_lead_36 rfl (lv_at hl 5 rfl) ?_
    refine n_iast hx hb hK hP hD hS 3 0 rfl rfl (k := (p' * 4 + x')) (by omega) (Nat.le_of_ble_eq_true rfl) dX0_lead_37 (fun H locs hP hD hS => ?_)
    have hP : va_P D vwCl (wx cI q sh sp (upd ld (p' * 4 + x') (nI t')) nm tx ds ct co kg ks) H := hP
    have hD : va_D _ (wx cI q sh sp (upd ld (p' * 4 + x') (nI t')) nm tx ds ct co kg ks) := hD
    refine lv_aload_n hx hb dX0_lead_38 rfl (lv_at hl 2 rfl) ?_
    refine k_callVW (wr := []) (As := []) (rest := []) ⟨hx, hb, hml, hown, hts⟩ (c_X0_forgetWalks l D cI q sh sp (upd ld (p' * 4 + x') (nI t')) nm tx ds ct co kg ks (k_D_tt hD)) (cwV 0 hts gX0_lead_X0_forgetWalks rfl rfl rfl (by decide +kernel) ⟨Nat.le_of_ble_eq_true rfl, Nat.le_of_ble_eq_true rfl⟩) k_B_bl (k_B_of hP hK) (va_recv hK hP (ci := 0) (q0 := 0) rfl rfl) rfl hl.1 rfl (Nat.le_of_ble_eq_true rfl) dX0_lead_39 ⟨Nat.le_of_ble_eq_true rfl, Nat.le_of_ble_eq_true rfl⟩ hP hD hS [] [0, 1, 2, 3, 4, 5, 6, 7, 8] rfl rfl (fun _ => rfl) (fun u_39 H locs hu_39 hP hD hS hsz hkp => ?_)
    have hP : va_P D vwCl (wx cI q sh sp (upd ld (p' * 4 + x') (nI t')) nm tx ds ct co (nI 0) ks) H := hP
    have hD : va_D _ (wx cI q sh sp (upd ld (p' * 4 + x') (nI t')) nm tx ds ct co (nI 0) ks) := hD
    refine lv_iload hx hb dX0_lead_42 (lv_at hl 0 rfl) ?_
    exact vx_ret (k_wiret (p', x', t')  hx hb hr hlocks dX0_lead_44 (⟨cd1_0 (and_t c_2 (by rw [c_11, Bool.or_true])), hp', rfl, hx', rfl, Nat.le_of_lt ht', (ix_lt ht').symm⟩) rfl hP hS (Nat.le_of_ble_eq_true rfl) (Nat.le_of_ble_eq_true rfl))
set_option maxHeartbeats 4000000 in
set_option maxRecDepth 100000 in
theorem c_X0_name (l : Launch) (hst : l.stackTraces = false) (D : va_G) (cI : ClassId) (q : Nat → Nat) (sh sp ld nm tx ds ct : Nat → Int32) (co : Int64) (kg : Int32) (ks : Nat → Int32) (p0 t m0 : Int32) (hDt : va_D (fun _ => True) (wx cI q sh sp ld nm tx ds ct co kg ks)) : vx_Met l yX0_name wsX0_name ({ frames := 7, cells := 8, slots := 48, locals := 111 } : Room) (k_P [.ref (q 0), .int p0, .int t, .int m0] (fun U => k_B D (wx cI q sh sp ld nm tx ds ct co kg ks) [(cI, .int)] U ∧ k_ex U)) (k_WQ D (wx cI q sh sp ld nm tx ds ct co kg ks) (fun u : Nat × Nat × Nat => cd2 (inB p0 8) (txB t m0) = 0 ∧ u.1 < 8 ∧ p0 = nI u.1 ∧ 1 ≤ u.2.2 ∧ u.2.2 ≤ 5 ∧ u.2.1 < 8 ^ u.2.2 ∧ t = nI u.2.1 ∧ m0 = nI u.2.2) (fun u => wx cI q sh sp ld (upd nm u.1 (nI (32768 * u.2.2 + u.2.1))) tx ds ct co (nI 0) ks) (fun u => none)) (k_XC (fun E => (E, cd2 (inB p0 8) (txB t m0)) ∈ ([(k_IO, 1), (k_IA, 2)] : List (String × Nat)))) 8 48 (k_A (wx cI q sh sp ld nm tx ds ct co kg ks)) := by
  refine k_headX (cc := cX0_name) (maxL := 4) (ret := none) [(0, .ref (q 0)), (1, .int p0), (2, .int t), (3, .int m0)] (by decide) rfl (Nat.le_of_ble_eq_true rfl) rfl ?_
  intro p e s m below meth c ls hx hb hr hml hown hts hlocks ht hB hl
  have hown : s.vm.findClass RX0 = some m.cls := hown
  obtain ⟨⟨hP, hK⟩, hex⟩ := hB
  have hin : ∀ w ∈ wsX00, w ∈ wsX0_name := fun w h => List.mem_cons_of_mem _ (List.mem_append_left _ (List.mem_append_left _ (List.mem_append_right _ h)))
  have hD := k_A_D hDt
  have hS : va_S (k_A (wx cI q sh sp ld nm tx ds ct co kg ks)) s.heap s.heap [] := va_S.rf
  refine lv_iload_n hx hb dX0_name_0 rfl (lv_at hl 1 rfl) ?_
  refine k_reqS (As := [.int p0]) (rest := []) ⟨hx, hb, hml, hown, hts⟩ (c_X0_requirePlace l hst p0) (va_cwS 1 hts gX0_name_X0_requirePlace rfl rfl rfl (by decide +kernel) ⟨Nat.le_of_ble_eq_true rfl, Nat.le_of_ble_eq_true rfl⟩) k_ex_bl (k_ex_of hex) rfl hl.1 rfl (Nat.le_of_ble_eq_true rfl) dX0_name_1 ⟨Nat.le_of_ble_eq_true rfl, Nat.le_of_ble_eq_true rfl⟩ (fun E h => by obtain ⟨rfl, h⟩ := h; rw [cd2_1 h]; exact List.mem_cons_self) ht hlocks (Nat.le_of_ble_eq_true rfl) (Nat.le_of_ble_eq_true rfl) (fun c_1 => ?_)
  obtain ⟨p', hp', rfl⟩ := inB_ex (by decide) (c_1)
  refine lv_iload_n hx hb dX0_name_4 rfl (lv_at hl 2 rfl) ?_
  refine lv_iload_n hx hb dX0_name_5 rfl (lv_at hl 3 rfl) ?_
  refine k_reqS (As := [.int t, .int m0]) (rest := []) ⟨hx, hb, hml, hown, hts⟩ (c_X0_requireText l hst t m0) (va_cwS 2 hts gX0_name_X0_requireText rfl rfl rfl (by decide +kernel) ⟨Nat.le_of_ble_eq_true rfl, Nat.le_of_ble_eq_true rfl⟩) k_ex_bl (k_ex_of hex) rfl hl.1 rfl (Nat.le_of_ble_eq_true rfl) dX0_name_6 ⟨Nat.le_of_ble_eq_true rfl, Nat.le_of_ble_eq_true rfl⟩ (fun E h => by obtain ⟨rfl, h⟩ := h; rw [cd2_2 c_1 h]; exact List.mem_cons_of_mem _ List.mem_cons_self) ht hlocks (Nat.le_of_ble_eq_true rfl) (Nat.le_of_ble_eq_true rfl) (fun c_6 => ?_)
  obtain ⟨t', k, hk1, hk5, htk, rfl, rfl⟩ := txB_ex c_6
  have hp8 := p8_le hk5
  have ht' : t' < 32768 := by omega
  refine lv_aload_n hx hb dX0_name_9 rfl (lv_at hl 0 rfl) ?_
  refine va_get (D := D) (ci := 0) (v := .ref (q 4)) (C := RX0) (T := TX0) (N := 10) hx hb hts hin hown hK hP 0 rfl rfl 3 (by decide) (hts (.fieldLink RX0 19 "SignRail" "names" "[I") (by decide +kernel)) (fun _ h9 => h9) rfl dX0_name_10 ?_
  refine lv_iload_n hx hb dX0_name_13 rfl (lv_at hl 1 rfl) ?_
  refine lv_iload_n hx hb dX0_name_14 rfl (lv_at hl 2 rfl) ?_
  refine lv_iload_n hx hb dX0_name_15 rfl (lv_at hl 3 rfl) ?_
  refine k_callSi (As := [.int (nI t'), .int (nI k)]) (rest := [.int (nI p'), .ref (q 4)]) ⟨hx, hb, hml, hown, hts⟩ (c_X0_pack l t' k (by omega) (by omega)) (va_cwS 2 hts gX0_name_X0_pack rfl rfl rfl (by decide +kernel) ⟨Nat.le_of_ble_eq_true rfl, Nat.le_of_ble_eq_true rfl⟩) k_bl_tt (fun _ _ _ => trivial) rfl hl.1 rfl (Nat.le_of_ble_eq_true rfl) dX0_name_16 ⟨Nat.le_of_ble_eq_true rfl, Nat.le_of_ble_eq_true rfl⟩ ?_
  refine n_iast hx hb hK hP hD hS 4 0 rfl rfl (k := p') (by omega) (Nat.le_of_ble_eq_true rfl) dX0_name_19 (fun H locs hP hD hS => ?_)
  have hP : va_P D vwCl (wx cI q sh sp ld (upd nm p' (nI (32768 * k + t'))) tx ds ct co kg ks) H := hP
  have hD : va_D _ (wx cI q sh sp ld (upd nm p' (nI (32768 * k + t'))) tx ds ct co kg ks) := hD
  refine lv_aload_n hx hb dX0_name_20 rfl (lv_at hl 0 rfl) ?_
  refine k_callVW (wr := []) (As := []) (rest := []) ⟨hx, hb, hml, hown, hts⟩ (c_X0_forgetWalks l D cI q sh sp ld (upd nm p' (nI (32768 * k + t'))) tx ds ct co kg ks (k_D_tt hD)) (cwV 0 hts gX0_name_X0_forgetWalks rfl rfl rfl (by decide +kernel) ⟨Nat.le_of_ble_eq_true rfl, Nat.le_of_ble_eq_true rfl⟩) k_B_bl (k_B_of hP hK) (va_recv hK hP (ci := 0) (q0 := 0) rfl rfl) rfl hl.1 rfl (Nat.le_of_ble_eq_true rfl) dX0_name_21 ⟨Nat.le_of_ble_eq_true rfl, Nat.le_of_ble_eq_true rfl⟩ hP hD hS [] [0, 1, 2, 3, 4, 5, 6, 7, 8] rfl rfl (fun _ => rfl) (fun u_21 H locs hu_21 hP hD hS hsz hkp => ?_)
  have hP : va_P D vwCl (wx cI q sh sp ld (upd nm p' (nI (32768 * k + t'))) tx ds ct co (nI 0) ks) H := hP
  have hD : va_D _ (wx cI q sh sp ld (upd nm p' (nI (32768 * k + t'))) tx ds ct co (nI 0) ks) := hD
  exact vx_ret (k_wvret (p', t', k)  hx hb hr hlocks dX0_name_24 (⟨cd2_0 c_1 c_6, hp', rfl, hk1, hk5, htk, rfl, rfl⟩) rfl hP hS (Nat.le_of_ble_eq_true rfl) (Nat.le_of_ble_eq_true rfl))
set_option maxHeartbeats 4000000 in
set_option maxRecDepth 100000 in
theorem c_X0_textWidth (l : Launch) (hst : l.stackTraces = false) (D : va_G) (cI : ClassId) (q : Nat → Nat) (sh sp ld nm tx ds ct : Nat → Int32) (co : Int64) (kg : Int32) (ks : Nat → Int32) (t m0 : Int32) (hDt : va_D (fun _ => True) (wx cI q sh sp ld nm tx ds ct co kg ks)) : vx_Met l yX0_textWidth wsX0_textWidth ({ frames := 7, cells := 8, slots := 48, locals := 119 } : Room) (k_P [.ref (q 0), .int t, .int m0] (fun U => k_B D (wx cI q sh sp ld nm tx ds ct co kg ks) [(cI, .int)] U ∧ k_ex U)) (k_WQ D (wx cI q sh sp ld nm tx ds ct co kg ks) (fun u : Nat × Nat => cd1 (txB t m0) = 0 ∧ 1 ≤ u.2 ∧ u.2 ≤ 5 ∧ u.1 < 8 ^ u.2 ∧ t = nI u.1 ∧ m0 = nI u.2) (fun u => wx cI q sh sp ld nm tx ds ct co kg ks) (fun u => some (.int (pwC (wdS sh) sp u.1 u.2)))) (k_XC (fun E => (E, cd1 (txB t m0)) ∈ ([(k_IA, 1)] : List (String × Nat)))) 8 48 (k_A (wx cI q sh sp ld nm tx ds ct co kg ks)) := by
  refine k_headX (cc := cX0_textWidth) (maxL := 3) (ret := (some .int)) [(0, .ref (q 0)), (1, .int t), (2, .int m0)] (by decide) rfl (Nat.le_of_ble_eq_true rfl) rfl ?_
  intro p e s m below meth c ls hx hb hr hml hown hts hlocks ht hB hl
  have hown : s.vm.findClass RX0 = some m.cls := hown
  obtain ⟨⟨hP, hK⟩, hex⟩ := hB
  have hin : ∀ w ∈ wsX00, w ∈ wsX0_textWidth := fun w h => List.mem_cons_of_mem _ (List.mem_append_left _ (List.mem_append_right _ h))
  have hD := k_A_D hDt
  have hS : va_S (k_A (wx cI q sh sp ld nm tx ds ct co kg ks)) s.heap s.heap [] := va_S.rf
  refine lv_iload_n hx hb dX0_textWidth_0 rfl (lv_at hl 1 rfl) ?_
  refine lv_iload_n hx hb dX0_textWidth_1 rfl (lv_at hl 2 rfl) ?_
  refine k_reqS (As := [.int t, .int m0]) (rest := []) ⟨hx, hb, hml, hown, hts⟩ (c_X0_requireText l hst t m0) (va_cwS 2 hts gX0_textWidth_X0_requireText rfl rfl rfl (by decide +kernel) ⟨Nat.le_of_ble_eq_true rfl, Nat.le_of_ble_eq_true rfl⟩) k_ex_bl (k_ex_of hex) rfl hl.1 rfl (Nat.le_of_ble_eq_true rfl) dX0_textWidth_2 ⟨Nat.le_of_ble_eq_true rfl, Nat.le_of_ble_eq_true rfl⟩ (fun E h => by obtain ⟨rfl, h⟩ := h; rw [cd1_1 h]; exact List.mem_cons_self) ht hlocks (Nat.le_of_ble_eq_true rfl) (Nat.le_of_ble_eq_true rfl) (fun c_2 => ?_)
  obtain ⟨t', k, hk1, hk5, htk, rfl, rfl⟩ := txB_ex c_2
  have hp8 := p8_le hk5
  have ht' : t' < 32768 := by omega
  refine lv_aload_n hx hb dX0_textWidth_5 rfl (lv_at hl 0 rfl) ?_
  refine lv_iload_n hx hb dX0_textWidth_6 rfl (lv_at hl 1 rfl) ?_
  refine lv_iload_n hx hb dX0_textWidth_7 rfl (lv_at hl 2 rfl) ?_
  refine k_callSi (As := [.int (nI t'), .int (nI k)]) (rest := [.ref (q 0)]) ⟨hx, hb, hml, hown, hts⟩ (c_X0_pack l t' k (by omega) (by omega)) (va_cwS 2 hts gX0_textWidth_X0_pack rfl rfl rfl (by decide +kernel) ⟨Nat.le_of_ble_eq_true rfl, Nat.le_of_ble_eq_true rfl⟩) k_bl_tt (fun _ _ _ => trivial) rfl hl.1 rfl (Nat.le_of_ble_eq_true rfl) dX0_textWidth_8 ⟨Nat.le_of_ble_eq_true rfl, Nat.le_of_ble_eq_true rfl⟩ ?_
  refine k_callVi (As := [.int (nI (32768 * k + t'))]) (rest := []) ⟨hx, hb, hml, hown, hts⟩ (c_X0_packedWidth l D cI q sh sp ld nm tx ds ct co kg ks t' k (by omega) (by omega)) (cwV 1 hts gX0_textWidth_X0_packedWidth rfl rfl rfl (by decide +kernel) ⟨Nat.le_of_ble_eq_true rfl, Nat.le_of_ble_eq_true rfl⟩) k_B_bl (k_B_of hP hK) (va_recv hK hP (ci := 0) (q0 := 0) rfl rfl) rfl hl.1 rfl (Nat.le_of_ble_eq_true rfl) dX0_textWidth_11 ⟨Nat.le_of_ble_eq_true rfl, Nat.le_of_ble_eq_true rfl⟩ ?_
  exact vx_ret (k_wiret (t', k)  hx hb hr hlocks dX0_textWidth_14 (⟨cd1_0 c_2, hk1, hk5, htk, rfl, rfl⟩) rfl hP hS (Nat.le_of_ble_eq_true rfl) (Nat.le_of_ble_eq_true rfl))
set_option maxHeartbeats 4000000 in
set_option maxRecDepth 100000 in
theorem c_X0_cut (l : Launch) (hst : l.stackTraces = false) (D : va_G) (cI : ClassId) (q : Nat → Nat) (sh sp ld nm tx ds ct : Nat → Int32) (co : Int64) (kg : Int32) (ks : Nat → Int32) (p0 x0 t m0 d0 : Int32) (hDt : va_D (fun _ => True) (wx cI q sh sp ld nm tx ds ct co kg ks)) : vx_Met l yX0_cut wsX0_cut ({ frames := 8, cells := 8, slots := 48, locals := 141 } : Room) (k_P [.ref (q 0), .int p0, .int x0, .int t, .int m0, .int d0] (fun U => k_B D (wx cI q sh sp ld nm tx ds ct co kg ks) [(cI, .int)] U ∧ k_ex U)) (k_WQ D (wx cI q sh sp ld nm tx ds ct co kg ks) (fun u : Nat × Nat × Nat × Nat => cd3 (inB p0 8 && inB x0 4) (txB t m0 && inB d0 10) (!decide (plF (pwC (wdS sh) sp t.toNatClampNeg m0.toNatClampNeg) = -1)) = 0 ∧ u.1 < 8 ∧ p0 = nI u.1 ∧ u.2.1 < 4 ∧ x0 = nI u.2.1 ∧ 1 ≤ u.2.2.2 ∧ u.2.2.2 ≤ 5 ∧ u.2.2.1 < 8 ^ u.2.2.2 ∧ t = nI u.2.2.1 ∧ m0 = nI u.2.2.2) (fun u => wx cI q sh sp ld nm (upd tx (u.1 * 4 + u.2.1) (nI (32768 * u.2.2.2 + u.2.2.1))) (upd ds (u.1 * 4 + u.2.1) d0) (engF sh ct (u.1 * 4 + u.2.1) u.2.2.1 u.2.2.2) (co + (plF (pwC (wdS sh) sp u.2.2.1 u.2.2.2)).toInt64) (nI 0) ks) (fun u => some (.int (plF (pwC (wdS sh) sp u.2.2.1 u.2.2.2))))) (k_XC (fun E => (E, cd3 (inB p0 8 && inB x0 4) (txB t m0 && inB d0 10) (!decide (plF (pwC (wdS sh) sp t.toNatClampNeg m0.toNatClampNeg) = -1))) ∈ ([(k_IO, 1), (k_IA, 2), (k_IS, 3)] : List (String × Nat)))) 8 48 (k_A (wx cI q sh sp ld nm tx ds ct co kg ks)) := by
  refine k_headX (cc := cX0_cut) (maxL := 9) (ret := (some .int)) [(0, .ref (q 0)), (1, .int p0), (2, .int x0), (3, .int t), (4, .int m0), (5, .int d0)] (by decide) rfl (Nat.le_of_ble_eq_true rfl) rfl ?_
  intro p e s m below meth c ls hx hb hr hml hown hts hlocks ht hB hl
  have hown : s.vm.findClass RX0 = some m.cls := hown
  obtain ⟨⟨hP, hK⟩, hex⟩ := hB
  have hin : ∀ w ∈ wsX00, w ∈ wsX0_cut := fun w h => List.mem_cons_of_mem _ (List.mem_append_left _ (List.mem_append_left _ (List.mem_append_left _ (List.mem_append_right _ h))))
  have hD := k_A_D hDt
  have hS : va_S (k_A (wx cI q sh sp ld nm tx ds ct co kg ks)) s.heap s.heap [] := va_S.rf
  refine lv_iload_n hx hb dX0_cut_0 rfl (lv_at hl 1 rfl) ?_
  refine lv_iload_n hx hb dX0_cut_1 rfl (lv_at hl 2 rfl) ?_
  refine k_reqS (As := [.int p0, .int x0]) (rest := []) ⟨hx, hb, hml, hown, hts⟩ (c_X0_requireExit l hst p0 x0) (va_cwS 2 hts gX0_cut_X0_requireExit rfl rfl rfl (by decide +kernel) ⟨Nat.le_of_ble_eq_true rfl, Nat.le_of_ble_eq_true rfl⟩) k_ex_bl (k_ex_of hex) rfl hl.1 rfl (Nat.le_of_ble_eq_true rfl) dX0_cut_2 ⟨Nat.le_of_ble_eq_true rfl, Nat.le_of_ble_eq_true rfl⟩ (fun E h => by obtain ⟨rfl, h⟩ := h; rw [cd3_1 h]; exact List.mem_cons_self) ht hlocks (Nat.le_of_ble_eq_true rfl) (Nat.le_of_ble_eq_true rfl) (fun c_2 => ?_)
  obtain ⟨he1, he2⟩ := Bool.and_eq_true_iff.mp c_2
  obtain ⟨p', hp', rfl⟩ := inB_ex (by decide) (he1)
  obtain ⟨x', hx', rfl⟩ := inB_ex (by decide) (he2)
  refine lv_iload_n hx hb dX0_cut_5 rfl (lv_at hl 3 rfl) ?_
  refine lv_iload hx hb dX0_cut_6 (lv_at hl 4 rfl) ?_
  refine k_reqS (As := [.int t, .int m0]) (rest := []) ⟨hx, hb, hml, hown, hts⟩ (c_X0_requireText l hst t m0) (va_cwS 2 hts gX0_cut_X0_requireText rfl rfl rfl (by decide +kernel) ⟨Nat.le_of_ble_eq_true rfl, Nat.le_of_ble_eq_true rfl⟩) k_ex_bl (k_ex_of hex) rfl hl.1 rfl (Nat.le_of_ble_eq_true rfl) dX0_cut_8 ⟨Nat.le_of_ble_eq_true rfl, Nat.le_of_ble_eq_true rfl⟩ (fun E h => by obtain ⟨rfl, h⟩ := h; rw [cd3_2 c_2 (and_l h)]; exact List.mem_cons_of_mem _ List.mem_cons_self) ht hlocks (Nat.le_of_ble_eq_true rfl) (Nat.le_of_ble_eq_true rfl) (fun c_8 => ?_)
  obtain ⟨t', k, hk1, hk5, htk, rfl, rfl⟩ := txB_ex c_8
  have hp8 := p8_le hk5
  have ht' : t' < 32768 := by omega
  refine lv_iload hx hb dX0_cut_11 (lv_at hl 5 rfl) ?_
  refine lv_if_lt (tgt := 23) hx hb dX0_cut_13 (by decide) (fun c_13 => ?_) (fun c_13 => ?_)
  · exact k_throw (cls := k_IA) (text := "no such distance") (ik := 71) (is := 100) (ic := 75) hx hb hst hown (by decide) (hts (.classLink RX0 71 k_IA) (by decide +kernel)) (hts (.initialized k_IA) (by decide +kernel)) hex (by decide) (fun w h => hts w (List.mem_cons_of_mem _ (List.mem_append_left _ (List.mem_append_left _ (List.mem_append_right _ h))))) k_ngIA k_gdIA (hl.1.trans hml.symm) dX0_cut_23 dX0_cut_26 dX0_cut_27 dX0_cut_29 dX0_cut_32 ht (Nat.le_of_ble_eq_true rfl) (Nat.le_of_ble_eq_true rfl) (Nat.le_of_ble_eq_true rfl) (Nat.le_of_ble_eq_true rfl) hlocks (by rw [cd3_2 c_2 (and_r (by first | exact inB_lt c_13 | exact d9_f c_20))]; exact List.mem_cons_of_mem _ List.mem_cons_self) (Nat.le_of_ble_eq_true rfl) (Nat.le_of_ble_eq_true rfl)
  · refine lv_iload hx hb dX0_cut_16 (lv_at hl 5 rfl) ?_
    refine lv_bipush (v := nI 9) hx hb dX0_cut_18 (by decide) ?_
    refine lv_icmp_le (tgt := 33) hx hb dX0_cut_20 (by decide) (fun c_20 => ?_) (fun c_20 => ?_)
    · have hcl : (nI t').toNatClampNeg = t' := nI_clamp (by omega)
      have hck : (nI k).toNatClampNeg = k := nI_clamp (by omega)
      have hd9 : inB d0 10 = true := d9_t c_13 c_20
      refine lv_iload_n hx hb dX0_cut_33 rfl (lv_at hl 3 rfl) ?_
      refine lv_iload hx hb dX0_cut_34 (lv_at hl 4 rfl) ?_
      refine k_callSi (As := [.int (nI t'), .int (nI k)]) (rest := []) ⟨hx, hb, hml, hown, hts⟩ (c_X0_pack l t' k (by omega) (by omega)) (va_cwS 2 hts gX0_cut_X0_pack rfl rfl rfl (by decide +kernel) ⟨Nat.le_of_ble_eq_true rfl, Nat.le_of_ble_eq_true rfl⟩) k_bl_tt (fun _ _ _ => trivial) rfl hl.1 rfl (Nat.le_of_ble_eq_true rfl) dX0_cut_36 ⟨Nat.le_of_ble_eq_true rfl, Nat.le_of_ble_eq_true rfl⟩ ?_
      refine lv_istore (lv' := [(6, .int (nI (32768 * k + t'))), (0, .ref (q 0)), (1, .int (nI p')), (2, .int (nI x')), (3, .int (nI t')), (4, .int (nI k)), (5, .int d0)]) hx hb dX0_cut_39 hl (by decide) rfl (fun ls hl => ?_)
      refine lv_aload_n hx hb dX0_cut_41 rfl (lv_at hl 1 rfl) ?_
      refine lv_iload hx hb dX0_cut_42 (lv_at hl 0 rfl) ?_
      refine k_callVi (As := [.int (nI (32768 * k + t'))]) (rest := []) ⟨hx, hb, hml, hown, hts⟩ (c_X0_plateFor l D cI q sh sp ld nm tx ds ct co kg ks t' k (by omega) (by omega)) (cwV 1 hts gX0_cut_X0_plateFor rfl rfl rfl (by decide +kernel) ⟨Nat.le_of_ble_eq_true rfl, Nat.le_of_ble_eq_true rfl⟩) k_B_bl (k_B_of hP hK) (va_recv hK hP (ci := 0) (q0 := 0) rfl rfl) rfl hl.1 rfl (Nat.le_of_ble_eq_true rfl) dX0_cut_44 ⟨Nat.le_of_ble_eq_true rfl, Nat.le_of_ble_eq_true rfl⟩ ?_
      refine lv_istore (lv' := [(7, .int (plF (pwC (wdS sh) sp t' k))), (6, .int (nI (32768 * k + t'))), (0, .ref (q 0)), (1, .int (nI p')), (2, .int (nI x')), (3, .int (nI t')), (4, .int (nI k)), (5, .int d0)]) hx hb dX0_cut_47 hl (by decide) rfl (fun ls hl => ?_)
      refine lv_iload hx hb dX0_cut_49 (lv_at hl 0 rfl) ?_
      refine lv_iconst (v := (-1)) hx hb dX0_cut_51 (by decide) ?_
      refine lv_icmp_ne (tgt := 65) hx hb dX0_cut_52 (by decide) (fun c_52 => ?_) (fun c_52 => ?_)
      · refine lv_iload_n hx hb dX0_cut_65 rfl (lv_at hl 3 rfl) ?_
        refine lv_iload_n hx hb dX0_cut_66 rfl (lv_at hl 4 rfl) ?_
        refine k_callSi (As := [.int (nI p'), .int (nI x')]) (rest := []) ⟨hx, hb, hml, hown, hts⟩ (c_X0_wayOf l p' x') (va_cwS 2 hts gX0_cut_X0_wayOf rfl rfl rfl (by decide +kernel) ⟨Nat.le_of_ble_eq_true rfl, Nat.le_of_ble_eq_true rfl⟩) k_bl_tt (fun _ _ _ => trivial) rfl hl.1 rfl (Nat.le_of_ble_eq_true rfl) dX0_cut_67 ⟨Nat.le_of_ble_eq_true rfl, Nat.le_of_ble_eq_true rfl⟩ ?_
        refine lv_istore (lv' := [(8, .int (nI (p' * 4 + x'))), (7, .int (plF (pwC (wdS sh) sp t' k))), (6, .int (nI (32768 * k + t'))), (0, .ref (q 0)), (1, .int (nI p')), (2, .int (nI x')), (3, .int (nI t')), (4, .int (nI k)), (5, .int d0)]) hx hb dX0_cut_70 hl (by decide) rfl (fun ls hl => ?_)
        refine lv_aload_n hx hb dX0_cut_72 rfl (lv_at hl 3 rfl) ?_
        refine va_get (D := D) (ci := 0) (v := .ref (q 5)) (C := RX0) (T := TX0) (N := 10) hx hb hts hin hown hK hP 0 rfl rfl 4 (by decide) (hts (.fieldLink RX0 22 "SignRail" "signTexts" "[I") (by decide +kernel)) (fun _ h9 => h9) rfl dX0_cut_73 ?_
        refine lv_iload hx hb dX0_cut_76 (lv_at hl 0 rfl) ?_
        refine lv_iload hx hb dX0_cut_78 (lv_at hl 2 rfl) ?_
        refine n_iast hx hb hK hP hD hS 5 0 rfl rfl (k := (p' * 4 + x')) (by omega) (Nat.le_of_ble_eq_true rfl) dX0_cut_80 (fun H locs hP hD hS => ?_)
        have hP : va_P D vwCl (wx cI q sh sp ld nm (upd tx (p' * 4 + x') (nI (32768 * k + t'))) ds ct co kg ks) H := hP
        have hD : va_D _ (wx cI q sh sp ld nm (upd tx (p' * 4 + x') (nI (32768 * k + t'))) ds ct co kg ks) := hD
        refine lv_aload_n hx hb dX0_cut_81 rfl (lv_at hl 3 rfl) ?_
        refine va_get (D := D) (ci := 0) (v := .ref (q 6)) (C := RX0) (T := TX0) (N := 10) hx hb hts hin hown hK hP 0 rfl rfl 5 (by decide) (hts (.fieldLink RX0 25 "SignRail" "signDistances" "[I") (by decide +kernel)) (fun _ h9 => h9) rfl dX0_cut_82 ?_
        refine lv_iload hx hb dX0_cut_85 (lv_at hl 0 rfl) ?_
        refine lv_iload hx hb dX0_cut_87 (lv_at hl 8 rfl) ?_
        refine n_iast hx hb hK hP hD hS 6 0 rfl rfl (k := (p' * 4 + x')) (by omega) (Nat.le_of_ble_eq_true rfl) dX0_cut_89 (fun H locs hP hD hS => ?_)
        have hP : va_P D vwCl (wx cI q sh sp ld nm (upd tx (p' * 4 + x') (nI (32768 * k + t'))) (upd ds (p' * 4 + x') d0) ct co kg ks) H := hP
        have hD : va_D _ (wx cI q sh sp ld nm (upd tx (p' * 4 + x') (nI (32768 * k + t'))) (upd ds (p' * 4 + x') d0) ct co kg ks) := hD
        refine lv_aload_n hx hb dX0_cut_90 rfl (lv_at hl 3 rfl) ?_
        refine lv_iload hx hb dX0_cut_91 (lv_at hl 0 rfl) ?_
        refine lv_iload hx hb dX0_cut_93 (lv_at hl 1 rfl) ?_
        refine k_callVW (wr := []) (As := [.int (nI (p' * 4 + x')), .int (plF (pwC (wdS sh) sp t' k))]) (rest := []) ⟨hx, hb, hml, hown, hts⟩ (c_X0_engrave l D cI q sh sp ld nm (upd tx (p' * 4 + x') (nI (32768 * k + t'))) (upd ds (p' * 4 + x') d0) ct co kg ks (p' * 4 + x') t' k (by omega) (by omega) hk5 pk_us (plF (pwC (wdS sh) sp t' k)) (k_D_tt hD)) (cwV 2 hts gX0_cut_X0_engrave rfl rfl rfl (by decide +kernel) ⟨Nat.le_of_ble_eq_true rfl, Nat.le_of_ble_eq_true rfl⟩) k_B_bl (k_B_of hP hK) (va_recv hK hP (ci := 0) (q0 := 0) rfl rfl) rfl hl.1 rfl (Nat.le_of_ble_eq_true rfl) dX0_cut_95 ⟨Nat.le_of_ble_eq_true rfl, Nat.le_of_ble_eq_true rfl⟩ hP hD hS [] [0, 1, 2, 3, 4, 5, 6, 7, 8] rfl rfl (fun _ => rfl) (fun u_95 H locs hu_95 hP hD hS hsz hkp => ?_)
        have hP : va_P D vwCl (wx cI q sh sp ld nm (upd tx (p' * 4 + x') (nI (32768 * k + t'))) (upd ds (p' * 4 + x') d0) (engF sh ct (p' * 4 + x') t' k) (co + (plF (pwC (wdS sh) sp t' k)).toInt64) kg ks) H := hP
        have hD : va_D _ (wx cI q sh sp ld nm (upd tx (p' * 4 + x') (nI (32768 * k + t'))) (upd ds (p' * 4 + x') d0) (engF sh ct (p' * 4 + x') t' k) (co + (plF (pwC (wdS sh) sp t' k)).toInt64) kg ks) := hD
        refine lv_aload_n hx hb dX0_cut_98 rfl (lv_at hl 3 rfl) ?_
        refine k_callVW (wr := []) (As := []) (rest := []) ⟨hx, hb, hml, hown, hts⟩ (c_X0_forgetWalks l D cI q sh sp ld nm (upd tx (p' * 4 + x') (nI (32768 * k + t'))) (upd ds (p' * 4 + x') d0) (engF sh ct (p' * 4 + x') t' k) (co + (plF (pwC (wdS sh) sp t' k)).toInt64) kg ks (k_D_tt hD)) (cwV 0 hts gX0_cut_X0_forgetWalks rfl rfl rfl (by decide +kernel) ⟨Nat.le_of_ble_eq_true rfl, Nat.le_of_ble_eq_true rfl⟩) k_B_bl (k_B_of hP hK) (va_recv hK hP (ci := 0) (q0 := 0) rfl rfl) rfl hl.1 rfl (Nat.le_of_ble_eq_true rfl) dX0_cut_99 ⟨Nat.le_of_ble_eq_true rfl, Nat.le_of_ble_eq_true rfl⟩ hP hD hS [] [0, 1, 2, 3, 4, 5, 6, 7, 8] rfl rfl (fun _ => rfl) (fun u_99 H locs hu_99 hP hD hS hsz hkp => ?_)
        have hP : va_P D vwCl (wx cI q sh sp ld nm (upd tx (p' * 4 + x') (nI (32768 * k + t'))) (upd ds (p' * 4 + x') d0) (engF sh ct (p' * 4 + x') t' k) (co + (plF (pwC (wdS sh) sp t' k)).toInt64) (nI 0) ks) H := hP
        have hD : va_D _ (wx cI q sh sp ld nm (upd tx (p' * 4 + x') (nI (32768 * k + t'))) (upd ds (p' * 4 + x') d0) (engF sh ct (p' * 4 + x') t' k) (co + (plF (pwC (wdS sh) sp t' k)).toInt64) (nI 0) ks) := hD
        refine lv_iload hx hb dX0_cut_102 (lv_at hl 1 rfl) ?_
        exact vx_ret (k_wiret (p', x', t', k)  hx hb hr hlocks dX0_cut_104 (⟨cd3_0 c_2 (and_t c_8 hd9) (by rw [hcl, hck, decide_eq_false c_52]; rfl), hp', rfl, hx', rfl, hk1, hk5, htk, rfl, rfl⟩) rfl hP hS (Nat.le_of_ble_eq_true rfl) (Nat.le_of_ble_eq_true rfl))
      · exact k_throw (cls := k_IS) (text := "too wide for any plate") (ik := 105) (is := 107) (ic := 109) hx hb hst hown (by decide) (hts (.classLink RX0 105 k_IS) (by decide +kernel)) (hts (.initialized k_IS) (by decide +kernel)) hex (by decide) (fun w h => hts w (List.mem_cons_of_mem _ (List.mem_append_left _ (List.mem_append_right _ h)))) k_ngIS k_gdIS (hl.1.trans hml.symm) dX0_cut_55 dX0_cut_58 dX0_cut_59 dX0_cut_61 dX0_cut_64 ht (Nat.le_of_ble_eq_true rfl) (Nat.le_of_ble_eq_true rfl) (Nat.le_of_ble_eq_true rfl) (Nat.le_of_ble_eq_true rfl) hlocks (by rw [cd3_3 c_2 (and_t c_8 hd9) (by rw [hcl, hck, decide_eq_true c_52]; rfl)]; exact List.mem_cons_of_mem _ (List.mem_cons_of_mem _ List.mem_cons_self)) (Nat.le_of_ble_eq_true rfl) (Nat.le_of_ble_eq_true rfl)
    · exact k_throw (cls := k_IA) (text := "no such distance") (ik := 71) (is := 100) (ic := 75) hx hb hst hown (by decide) (hts (.classLink RX0 71 k_IA) (by decide +kernel)) (hts (.initialized k_IA) (by decide +kernel)) hex (by decide) (fun w h => hts w (List.mem_cons_of_mem _ (List.mem_append_left _ (List.mem_append_left _ (List.mem_append_right _ h))))) k_ngIA k_gdIA (hl.1.trans hml.symm) dX0_cut_23 dX0_cut_26 dX0_cut_27 dX0_cut_29 dX0_cut_32 ht (Nat.le_of_ble_eq_true rfl) (Nat.le_of_ble_eq_true rfl) (Nat.le_of_ble_eq_true rfl) (Nat.le_of_ble_eq_true rfl) hlocks (by rw [cd3_2 c_2 (and_r (by first | exact inB_lt c_13 | exact d9_f c_20))]; exact List.mem_cons_of_mem _ List.mem_cons_self) (Nat.le_of_ble_eq_true rfl) (Nat.le_of_ble_eq_true rfl)
set_option maxHeartbeats 4000000 in
set_option maxRecDepth 100000 in
theorem c_X0_remove (l : Launch) (hst : l.stackTraces = false) (D : va_G) (cI : ClassId) (q : Nat → Nat) (sh sp ld nm tx ds ct : Nat → Int32) (co : Int64) (kg : Int32) (ks : Nat → Int32) (p0 x0 : Int32) (hDt : va_D (fun _ => True) (wx cI q sh sp ld nm tx ds ct co kg ks)) : vx_Met l yX0_remove wsX0_remove ({ frames := 8, cells := 8, slots := 48, locals := 131 } : Room) (k_P [.ref (q 0), .int p0, .int x0] (fun U => k_B D (wx cI q sh sp ld nm tx ds ct co kg ks) [(cI, .int)] U ∧ k_ex U)) (k_WQ D (wx cI q sh sp ld nm tx ds ct co kg ks) (fun u : Nat × Nat => cd1 (inB p0 8 && inB x0 4) = 0 ∧ u.1 < 8 ∧ p0 = nI u.1 ∧ u.2 < 4 ∧ x0 = nI u.2) (fun u => wx cI q sh sp ld nm (upd tx (u.1 * 4 + u.2) (nI 0)) ds ct co (nI 0) ks) (fun u => some (.int (bI (!decide (tx (u.1 * 4 + u.2) = 0)))))) (k_XC (fun E => (E, cd1 (inB p0 8 && inB x0 4)) ∈ ([(k_IO, 1)] : List (String × Nat)))) 8 48 (k_A (wx cI q sh sp ld nm tx ds ct co kg ks)) := by
  refine k_headX (cc := cX0_remove) (maxL := 5) (ret := (some .boolean)) [(0, .ref (q 0)), (1, .int p0), (2, .int x0)] (by decide) rfl (Nat.le_of_ble_eq_true rfl) rfl ?_
  intro p e s m below meth c ls hx hb hr hml hown hts hlocks ht hB hl
  have hown : s.vm.findClass RX0 = some m.cls := hown
  obtain ⟨⟨hP, hK⟩, hex⟩ := hB
  have hin : ∀ w ∈ wsX00, w ∈ wsX0_remove := fun w h => List.mem_cons_of_mem _ (List.mem_append_left _ (List.mem_append_right _ h))
  have hD := k_A_D hDt
  have hS : va_S (k_A (wx cI q sh sp ld nm tx ds ct co kg ks)) s.heap s.heap [] := va_S.rf
  refine lv_iload_n hx hb dX0_remove_0 rfl (lv_at hl 1 rfl) ?_
  refine lv_iload_n hx hb dX0_remove_1 rfl (lv_at hl 2 rfl) ?_
  refine k_reqS (As := [.int p0, .int x0]) (rest := []) ⟨hx, hb, hml, hown, hts⟩ (c_X0_requireExit l hst p0 x0) (va_cwS 2 hts gX0_remove_X0_requireExit rfl rfl rfl (by decide +kernel) ⟨Nat.le_of_ble_eq_true rfl, Nat.le_of_ble_eq_true rfl⟩) k_ex_bl (k_ex_of hex) rfl hl.1 rfl (Nat.le_of_ble_eq_true rfl) dX0_remove_2 ⟨Nat.le_of_ble_eq_true rfl, Nat.le_of_ble_eq_true rfl⟩ (fun E h => by obtain ⟨rfl, h⟩ := h; rw [cd1_1 h]; exact List.mem_cons_self) ht hlocks (Nat.le_of_ble_eq_true rfl) (Nat.le_of_ble_eq_true rfl) (fun c_2 => ?_)
  obtain ⟨he1, he2⟩ := Bool.and_eq_true_iff.mp c_2
  obtain ⟨p', hp', rfl⟩ := inB_ex (by decide) (he1)
  obtain ⟨x', hx', rfl⟩ := inB_ex (by decide) (he2)
  refine lv_iload_n hx hb dX0_remove_5 rfl (lv_at hl 1 rfl) ?_
  refine lv_iload_n hx hb dX0_remove_6 rfl (lv_at hl 2 rfl) ?_
  refine k_callSi (As := [.int (nI p'), .int (nI x')]) (rest := []) ⟨hx, hb, hml, hown, hts⟩ (c_X0_wayOf l p' x') (va_cwS 2 hts gX0_remove_X0_wayOf rfl rfl rfl (by decide +kernel) ⟨Nat.le_of_ble_eq_true rfl, Nat.le_of_ble_eq_true rfl⟩) k_bl_tt (fun _ _ _ => trivial) rfl hl.1 rfl (Nat.le_of_ble_eq_true rfl) dX0_remove_7 ⟨Nat.le_of_ble_eq_true rfl, Nat.le_of_ble_eq_true rfl⟩ ?_
  refine lv_istore_n (lv' := [(3, .int (nI (p' * 4 + x'))), (0, .ref (q 0)), (1, .int (nI p')), (2, .int (nI x'))]) hx hb dX0_remove_10 rfl hl (by decide) rfl (fun ls hl => ?_)
  refine lv_aload_n hx hb dX0_remove_11 rfl (lv_at hl 1 rfl) ?_
  refine va_get (D := D) (ci := 0) (v := .ref (q 5)) (C := RX0) (T := TX0) (N := 10) hx hb hts hin hown hK hP 0 rfl rfl 4 (by decide) (hts (.fieldLink RX0 22 "SignRail" "signTexts" "[I") (by decide +kernel)) (fun _ h9 => h9) rfl dX0_remove_12 ?_
  refine lv_iload_n hx hb dX0_remove_15 rfl (lv_at hl 0 rfl) ?_
  refine n_iald hx hb hK hP 5 0 rfl rfl (k := (p' * 4 + x')) (by omega) (Nat.le_of_ble_eq_true rfl) dX0_remove_16 ?_
  refine lv_if_eq (tgt := 24) hx hb dX0_remove_17 (by decide) (fun c_17 => ?_) (fun c_17 => ?_)
  · refine lv_iconst (v := nI 0) hx hb dX0_remove_24 (by decide) ?_
    refine lv_as (y := bI (!decide (tx (p' * 4 + x') = 0))) (by rw [decide_eq_true c_17]; rfl) ?_
    refine lv_istore (lv' := [(4, .int (bI (!decide (tx (p' * 4 + x') = 0)))), (3, .int (nI (p' * 4 + x'))), (0, .ref (q 0)), (1, .int (nI p')), (2, .int (nI x'))]) hx hb dX0_remove_25 hl (by decide) rfl (fun ls hl => ?_)
    refine lv_aload_n hx hb dX0_remove_27 rfl (lv_at hl 2 rfl) ?_
    refine va_get (D := D) (ci := 0) (v := .ref (q 5)) (C := RX0) (T := TX0) (N := 10) hx hb hts hin hown hK hP 0 rfl rfl 4 (by decide) (hts (.fieldLink RX0 22 "SignRail" "signTexts" "[I") (by decide +kernel)) (fun _ h9 => h9) rfl dX0_remove_28 ?_
    refine lv_iload_n hx hb dX0_remove_31 rfl (lv_at hl 1 rfl) ?_
    refine lv_iconst (v := nI 0) hx hb dX0_remove_32 (by decide) ?_
    refine n_iast hx hb hK hP hD hS 5 0 rfl rfl (k := (p' * 4 + x')) (by omega) (Nat.le_of_ble_eq_true rfl) dX0_remove_33 (fun H locs hP hD hS => ?_)
    have hP : va_P D vwCl (wx cI q sh sp ld nm (upd tx (p' * 4 + x') (nI 0)) ds ct co kg ks) H := hP
    have hD : va_D _ (wx cI q sh sp ld nm (upd tx (p' * 4 + x') (nI 0)) ds ct co kg ks) := hD
    refine lv_aload_n hx hb dX0_remove_34 rfl (lv_at hl 2 rfl) ?_
    refine k_callVW (wr := []) (As := []) (rest := []) ⟨hx, hb, hml, hown, hts⟩ (c_X0_forgetWalks l D cI q sh sp ld nm (upd tx (p' * 4 + x') (nI 0)) ds ct co kg ks (k_D_tt hD)) (cwV 0 hts gX0_remove_X0_forgetWalks rfl rfl rfl (by decide +kernel) ⟨Nat.le_of_ble_eq_true rfl, Nat.le_of_ble_eq_true rfl⟩) k_B_bl (k_B_of hP hK) (va_recv hK hP (ci := 0) (q0 := 0) rfl rfl) rfl hl.1 rfl (Nat.le_of_ble_eq_true rfl) dX0_remove_35 ⟨Nat.le_of_ble_eq_true rfl, Nat.le_of_ble_eq_true rfl⟩ hP hD hS [] [0, 1, 2, 3, 4, 5, 6, 7, 8] rfl rfl (fun _ => rfl) (fun u_35 H locs hu_35 hP hD hS hsz hkp => ?_)
    have hP : va_P D vwCl (wx cI q sh sp ld nm (upd tx (p' * 4 + x') (nI 0)) ds ct co (nI 0) ks) H := hP
    have hD : va_D _ (wx cI q sh sp ld nm (upd tx (p' * 4 + x') (nI 0)) ds ct co (nI 0) ks) := hD
    refine lv_iload hx hb dX0_remove_38 (lv_at hl 0 rfl) ?_
    exact vx_ret (k_wzret (p', x') (!decide (tx (p' * 4 + x') = 0)) hx hb hr hlocks dX0_remove_40 (rfl) (⟨cd1_0 c_2, hp', rfl, hx', rfl⟩) rfl hP hS (Nat.le_of_ble_eq_true rfl) (Nat.le_of_ble_eq_true rfl))
  · refine lv_iconst (v := nI 1) hx hb dX0_remove_20 (by decide) ?_
    refine lv_as (y := bI (!decide (tx (p' * 4 + x') = 0))) (by rw [decide_eq_false c_17]; rfl) ?_
    refine lv_goto (tgt := 25) hx hb dX0_remove_21 (by decide) ?_
    refine lv_istore (lv' := [(4, .int (bI (!decide (tx (p' * 4 + x') = 0)))), (3, .int (nI (p' * 4 + x'))), (0, .ref (q 0)), (1, .int (nI p')), (2, .int (nI x'))]) hx hb dX0_remove_25 hl (by decide) rfl (fun ls hl => ?_)
    refine lv_aload_n hx hb dX0_remove_27 rfl (lv_at hl 2 rfl) ?_
    refine va_get (D := D) (ci := 0) (v := .ref (q 5)) (C := RX0) (T := TX0) (N := 10) hx hb hts hin hown hK hP 0 rfl rfl 4 (by decide) (hts (.fieldLink RX0 22 "SignRail" "signTexts" "[I") (by decide +kernel)) (fun _ h9 => h9) rfl dX0_remove_28 ?_
    refine lv_iload_n hx hb dX0_remove_31 rfl (lv_at hl 1 rfl) ?_
    refine lv_iconst (v := nI 0) hx hb dX0_remove_32 (by decide) ?_
    refine n_iast hx hb hK hP hD hS 5 0 rfl rfl (k := (p' * 4 + x')) (by omega) (Nat.le_of_ble_eq_true rfl) dX0_remove_33 (fun H locs hP hD hS => ?_)
    have hP : va_P D vwCl (wx cI q sh sp ld nm (upd tx (p' * 4 + x') (nI 0)) ds ct co kg ks) H := hP
    have hD : va_D _ (wx cI q sh sp ld nm (upd tx (p' * 4 + x') (nI 0)) ds ct co kg ks) := hD
    refine lv_aload_n hx hb dX0_remove_34 rfl (lv_at hl 2 rfl) ?_
    refine k_callVW (wr := []) (As := []) (rest := []) ⟨hx, hb, hml, hown, hts⟩ (c_X0_forgetWalks l D cI q sh sp ld nm (upd tx (p' * 4 + x') (nI 0)) ds ct co kg ks (k_D_tt hD)) (cwV 0 hts gX0_remove_X0_forgetWalks rfl rfl rfl (by decide +kernel) ⟨Nat.le_of_ble_eq_true rfl, Nat.le_of_ble_eq_true rfl⟩) k_B_bl (k_B_of hP hK) (va_recv hK hP (ci := 0) (q0 := 0) rfl rfl) rfl hl.1 rfl (Nat.le_of_ble_eq_true rfl) dX0_remove_35 ⟨Nat.le_of_ble_eq_true rfl, Nat.le_of_ble_eq_true rfl⟩ hP hD hS [] [0, 1, 2, 3, 4, 5, 6, 7, 8] rfl rfl (fun _ => rfl) (fun u_35 H locs hu_35 hP hD hS hsz hkp => ?_)
    have hP : va_P D vwCl (wx cI q sh sp ld nm (upd tx (p' * 4 + x') (nI 0)) ds ct co (nI 0) ks) H := hP
    have hD : va_D _ (wx cI q sh sp ld nm (upd tx (p' * 4 + x') (nI 0)) ds ct co (nI 0) ks) := hD
    refine lv_iload hx hb dX0_remove_38 (lv_at hl 0 rfl) ?_
    exact vx_ret (k_wzret (p', x') (!decide (tx (p' * 4 + x') = 0)) hx hb hr hlocks dX0_remove_40 (rfl) (⟨cd1_0 c_2, hp', rfl, hx', rfl⟩) rfl hP hS (Nat.le_of_ble_eq_true rfl) (Nat.le_of_ble_eq_true rfl))
set_option maxHeartbeats 4000000 in
set_option maxRecDepth 100000 in
theorem c_X0_isOld (l : Launch) (hst : l.stackTraces = false) (D : va_G) (cI : ClassId) (q : Nat → Nat) (sh sp ld nm tx ds ct : Nat → Int32) (co : Int64) (kg : Int32) (ks : Nat → Int32) (p0 x0 : Int32) (T K : Nat → Nat) (hG : ∀ w, w < 32 → T w < 32768 ∧ K w ≤ 5 ∧ tx w = nI (32768 * K w + T w) ∧ ∀ j, j < K w → S25 (ct (w * 5 + j))) (hDt : va_D (fun _ => True) (wx cI q sh sp ld nm tx ds ct co kg ks)) : vx_Met l yX0_isOld wsX0_isOld ({ frames := 8, cells := 8, slots := 48, locals := 131 } : Room) (k_P [.ref (q 0), .int p0, .int x0] (fun U => k_B D (wx cI q sh sp ld nm tx ds ct co kg ks) [(cI, .int)] U ∧ k_ex U)) (k_WQ D (wx cI q sh sp ld nm tx ds ct co kg ks) (fun u : Nat × Nat => cd1 (inB p0 8 && inB x0 4) = 0 ∧ u.1 < 8 ∧ p0 = nI u.1 ∧ u.2 < 4 ∧ x0 = nI u.2) (fun u => wx cI q sh sp ld nm tx ds ct co kg ks) (fun u => some (.int (bI (anyB (oldC sh ct (u.1 * 4 + u.2) (T (u.1 * 4 + u.2))) (K (u.1 * 4 + u.2))))))) (k_XC (fun E => (E, cd1 (inB p0 8 && inB x0 4)) ∈ ([(k_IO, 1)] : List (String × Nat)))) 8 48 (k_A (wx cI q sh sp ld nm tx ds ct co kg ks)) := by
  refine k_headX (cc := cX0_isOld) (maxL := 3) (ret := (some .boolean)) [(0, .ref (q 0)), (1, .int p0), (2, .int x0)] (by decide) rfl (Nat.le_of_ble_eq_true rfl) rfl ?_
  intro p e s m below meth c ls hx hb hr hml hown hts hlocks ht hB hl
  have hown : s.vm.findClass RX0 = some m.cls := hown
  obtain ⟨⟨hP, hK⟩, hex⟩ := hB
  have hin : ∀ w ∈ wsX00, w ∈ wsX0_isOld := fun w h => List.mem_cons_of_mem _ (List.mem_append_left _ (List.mem_append_right _ h))
  have hD := k_A_D hDt
  have hS : va_S (k_A (wx cI q sh sp ld nm tx ds ct co kg ks)) s.heap s.heap [] := va_S.rf
  refine lv_iload_n hx hb dX0_isOld_0 rfl (lv_at hl 1 rfl) ?_
  refine lv_iload_n hx hb dX0_isOld_1 rfl (lv_at hl 2 rfl) ?_
  refine k_reqS (As := [.int p0, .int x0]) (rest := []) ⟨hx, hb, hml, hown, hts⟩ (c_X0_requireExit l hst p0 x0) (va_cwS 2 hts gX0_isOld_X0_requireExit rfl rfl rfl (by decide +kernel) ⟨Nat.le_of_ble_eq_true rfl, Nat.le_of_ble_eq_true rfl⟩) k_ex_bl (k_ex_of hex) rfl hl.1 rfl (Nat.le_of_ble_eq_true rfl) dX0_isOld_2 ⟨Nat.le_of_ble_eq_true rfl, Nat.le_of_ble_eq_true rfl⟩ (fun E h => by obtain ⟨rfl, h⟩ := h; rw [cd1_1 h]; exact List.mem_cons_self) ht hlocks (Nat.le_of_ble_eq_true rfl) (Nat.le_of_ble_eq_true rfl) (fun c_2 => ?_)
  obtain ⟨he1, he2⟩ := Bool.and_eq_true_iff.mp c_2
  obtain ⟨p', hp', rfl⟩ := inB_ex (by decide) (he1)
  obtain ⟨x', hx', rfl⟩ := inB_ex (by decide) (he2)
  refine lv_aload_n hx hb dX0_isOld_5 rfl (lv_at hl 0 rfl) ?_
  refine lv_iload_n hx hb dX0_isOld_6 rfl (lv_at hl 1 rfl) ?_
  refine lv_iload_n hx hb dX0_isOld_7 rfl (lv_at hl 2 rfl) ?_
  refine k_callSi (As := [.int (nI p'), .int (nI x')]) (rest := [.ref (q 0)]) ⟨hx, hb, hml, hown, hts⟩ (c_X0_wayOf l p' x') (va_cwS 2 hts gX0_isOld_X0_wayOf rfl rfl rfl (by decide +kernel) ⟨Nat.le_of_ble_eq_true rfl, Nat.le_of_ble_eq_true rfl⟩) k_bl_tt (fun _ _ _ => trivial) rfl hl.1 rfl (Nat.le_of_ble_eq_true rfl) dX0_isOld_8 ⟨Nat.le_of_ble_eq_true rfl, Nat.le_of_ble_eq_true rfl⟩ ?_
  refine k_callVi (As := [.int (nI (p' * 4 + x'))]) (rest := []) ⟨hx, hb, hml, hown, hts⟩ (c_X0_isOutdated l D cI q sh sp ld nm tx ds ct co kg ks (p' * 4 + x') (T (p' * 4 + x')) (K (p' * 4 + x')) (by omega) (hG _ (by omega)).1 (hG _ (by omega)).2.1 (hG _ (by omega)).2.2.1) (cwV 1 hts gX0_isOld_X0_isOutdated rfl rfl rfl (by decide +kernel) ⟨Nat.le_of_ble_eq_true rfl, Nat.le_of_ble_eq_true rfl⟩) k_B_bl (k_B_of hP hK) (va_recv hK hP (ci := 0) (q0 := 0) rfl rfl) rfl hl.1 rfl (Nat.le_of_ble_eq_true rfl) dX0_isOld_11 ⟨Nat.le_of_ble_eq_true rfl, Nat.le_of_ble_eq_true rfl⟩ ?_
  exact vx_ret (k_wzret (p', x') (anyB (oldC sh ct (p' * 4 + x') (T (p' * 4 + x'))) (K (p' * 4 + x'))) hx hb hr hlocks dX0_isOld_14 (rfl) (⟨cd1_0 c_2, hp', rfl, hx', rfl⟩) rfl hP hS (Nat.le_of_ble_eq_true rfl) (Nat.le_of_ble_eq_true rfl))
set_option maxHeartbeats 4000000 in
set_option maxRecDepth 100000 in
theorem c_X0_read (l : Launch) (hst : l.stackTraces = false) (D : va_G) (cI : ClassId) (q : Nat → Nat) (sh sp ld nm tx ds ct : Nat → Int32) (co : Int64) (kg : Int32) (ks : Nat → Int32) (p0 x0 : Int32) (T K : Nat → Nat) (hG : ∀ w, w < 32 → T w < 32768 ∧ K w ≤ 5 ∧ tx w = nI (32768 * K w + T w) ∧ ∀ j, j < K w → S25 (ct (w * 5 + j))) (hsh : ∀ g, g < 8 → S25 (sh g)) (hS0 : ∀ w, w < 32 → T w < 8 ^ K w) (hDt : va_D (fun _ => True) (wx cI q sh sp ld nm tx ds ct co kg ks)) : vx_Met l yX0_read wsX0_read ({ frames := 8, cells := 8, slots := 48, locals := 131 } : Room) (k_P [.ref (q 0), .int p0, .int x0] (fun U => k_B D (wx cI q sh sp ld nm tx ds ct co kg ks) [(cI, .int)] U ∧ k_ex U)) (k_WQ D (wx cI q sh sp ld nm tx ds ct co kg ks) (fun u : Nat × Nat => cd1 (inB p0 8 && inB x0 4) = 0 ∧ u.1 < 8 ∧ p0 = nI u.1 ∧ u.2 < 4 ∧ x0 = nI u.2) (fun u => wx cI q sh sp ld nm tx ds ct co kg ks) (fun u => some (.int (if K (u.1 * 4 + u.2) = 0 then (-1) else nI (rtN (rdS sh ct ds (u.1 * 4 + u.2)) (K (u.1 * 4 + u.2))))))) (k_XC (fun E => (E, cd1 (inB p0 8 && inB x0 4)) ∈ ([(k_IO, 1)] : List (String × Nat)))) 8 48 (k_A (wx cI q sh sp ld nm tx ds ct co kg ks)) := by
  refine k_headX (cc := cX0_read) (maxL := 4) (ret := (some .int)) [(0, .ref (q 0)), (1, .int p0), (2, .int x0)] (by decide) rfl (Nat.le_of_ble_eq_true rfl) rfl ?_
  intro p e s m below meth c ls hx hb hr hml hown hts hlocks ht hB hl
  have hown : s.vm.findClass RX0 = some m.cls := hown
  obtain ⟨⟨hP, hK⟩, hex⟩ := hB
  have hin : ∀ w ∈ wsX00, w ∈ wsX0_read := fun w h => List.mem_cons_of_mem _ (List.mem_append_left _ (List.mem_append_right _ h))
  have hD := k_A_D hDt
  have hS : va_S (k_A (wx cI q sh sp ld nm tx ds ct co kg ks)) s.heap s.heap [] := va_S.rf
  refine lv_iload_n hx hb dX0_read_0 rfl (lv_at hl 1 rfl) ?_
  refine lv_iload_n hx hb dX0_read_1 rfl (lv_at hl 2 rfl) ?_
  refine k_reqS (As := [.int p0, .int x0]) (rest := []) ⟨hx, hb, hml, hown, hts⟩ (c_X0_requireExit l hst p0 x0) (va_cwS 2 hts gX0_read_X0_requireExit rfl rfl rfl (by decide +kernel) ⟨Nat.le_of_ble_eq_true rfl, Nat.le_of_ble_eq_true rfl⟩) k_ex_bl (k_ex_of hex) rfl hl.1 rfl (Nat.le_of_ble_eq_true rfl) dX0_read_2 ⟨Nat.le_of_ble_eq_true rfl, Nat.le_of_ble_eq_true rfl⟩ (fun E h => by obtain ⟨rfl, h⟩ := h; rw [cd1_1 h]; exact List.mem_cons_self) ht hlocks (Nat.le_of_ble_eq_true rfl) (Nat.le_of_ble_eq_true rfl) (fun c_2 => ?_)
  obtain ⟨he1, he2⟩ := Bool.and_eq_true_iff.mp c_2
  obtain ⟨p', hp', rfl⟩ := inB_ex (by decide) (he1)
  obtain ⟨x', hx', rfl⟩ := inB_ex (by decide) (he2)
  refine lv_iload_n hx hb dX0_read_5 rfl (lv_at hl 1 rfl) ?_
  refine lv_iload_n hx hb dX0_read_6 rfl (lv_at hl 2 rfl) ?_
  refine k_callSi (As := [.int (nI p'), .int (nI x')]) (rest := []) ⟨hx, hb, hml, hown, hts⟩ (c_X0_wayOf l p' x') (va_cwS 2 hts gX0_read_X0_wayOf rfl rfl rfl (by decide +kernel) ⟨Nat.le_of_ble_eq_true rfl, Nat.le_of_ble_eq_true rfl⟩) k_bl_tt (fun _ _ _ => trivial) rfl hl.1 rfl (Nat.le_of_ble_eq_true rfl) dX0_read_7 ⟨Nat.le_of_ble_eq_true rfl, Nat.le_of_ble_eq_true rfl⟩ ?_
  refine lv_istore_n (lv' := [(3, .int (nI (p' * 4 + x'))), (0, .ref (q 0)), (1, .int (nI p')), (2, .int (nI x'))]) hx hb dX0_read_10 rfl hl (by decide) rfl (fun ls hl => ?_)
  refine lv_aload_n hx hb dX0_read_11 rfl (lv_at hl 1 rfl) ?_
  refine va_get (D := D) (ci := 0) (v := .ref (q 5)) (C := RX0) (T := TX0) (N := 10) hx hb hts hin hown hK hP 0 rfl rfl 4 (by decide) (hts (.fieldLink RX0 22 "SignRail" "signTexts" "[I") (by decide +kernel)) (fun _ h9 => h9) rfl dX0_read_12 ?_
  refine lv_iload_n hx hb dX0_read_15 rfl (lv_at hl 0 rfl) ?_
  refine n_iald hx hb hK hP 5 0 rfl rfl (k := (p' * 4 + x')) (by omega) (Nat.le_of_ble_eq_true rfl) dX0_read_16 ?_
  refine lv_as (y := nI (32768 * (K (p' * 4 + x')) + (T (p' * 4 + x')))) ((hG _ (by omega)).2.2.1) ?_
  refine n_if_ne (tgt := 24) hx hb dX0_read_17 (by decide) (by have := hG _ (show p' * 4 + x' < 32 by omega); omega) (fun c_17 => ?_) (fun c_17 => ?_)
  · have hrt := rtN_lt (r := rdS sh ct ds (p' * 4 + x')) (fun _ => rdG_lt _ _) (K (p' * 4 + x'))
    have hp8 := p8_le (k := K (p' * 4 + x')) (hG _ (by omega)).2.1
    refine lv_aload_n hx hb dX0_read_24 rfl (lv_at hl 1 rfl) ?_
    refine lv_iload_n hx hb dX0_read_25 rfl (lv_at hl 0 rfl) ?_
    refine k_callVi (As := [.int (nI (p' * 4 + x'))]) (rest := []) ⟨hx, hb, hml, hown, hts⟩ (c_X0_readText l D cI q sh sp ld nm tx ds ct co kg ks (p' * 4 + x') (T (p' * 4 + x')) (K (p' * 4 + x')) (by omega) (hG _ (by omega)).1 (hG _ (by omega)).2.1 (hG _ (by omega)).2.2.1 hsh (hG _ (by omega)).2.2.2) (cwV 1 hts gX0_read_X0_readText rfl rfl rfl (by decide +kernel) ⟨Nat.le_of_ble_eq_true rfl, Nat.le_of_ble_eq_true rfl⟩) k_B_bl (k_B_of hP hK) (va_recv hK hP (ci := 0) (q0 := 0) rfl rfl) rfl hl.1 rfl (Nat.le_of_ble_eq_true rfl) dX0_read_26 ⟨Nat.le_of_ble_eq_true rfl, Nat.le_of_ble_eq_true rfl⟩ ?_
    refine k_callSi (As := [.int (nI (32768 * (K (p' * 4 + x')) + (rtN (rdS sh ct ds (p' * 4 + x')) (K (p' * 4 + x')))))]) (rest := []) ⟨hx, hb, hml, hown, hts⟩ (c_X0_numberOf l (rtN (rdS sh ct ds (p' * 4 + x')) (K (p' * 4 + x'))) (K (p' * 4 + x')) (by omega)) (va_cwS 1 hts gX0_read_X0_numberOf rfl rfl rfl (by decide +kernel) ⟨Nat.le_of_ble_eq_true rfl, Nat.le_of_ble_eq_true rfl⟩) k_bl_tt (fun _ _ _ => trivial) rfl hl.1 rfl (Nat.le_of_ble_eq_true rfl) dX0_read_29 ⟨Nat.le_of_ble_eq_true rfl, Nat.le_of_ble_eq_true rfl⟩ ?_
    refine lv_as (y := if K (p' * 4 + x') = 0 then (-1) else nI (rtN (rdS sh ct ds (p' * 4 + x')) (K (p' * 4 + x')))) ((if_neg (fun q => by have h0 := hS0 (p' * 4 + x') (by omega); rw [q] at h0 c_17; omega)).symm) ?_
    exact vx_ret (k_wiret (p', x')  hx hb hr hlocks dX0_read_32 (⟨cd1_0 c_2, hp', rfl, hx', rfl⟩) rfl hP hS (Nat.le_of_ble_eq_true rfl) (Nat.le_of_ble_eq_true rfl))
  · refine lv_iconst (v := (-1)) hx hb dX0_read_20 (by decide) ?_
    refine lv_goto (tgt := 32) hx hb dX0_read_21 (by decide) ?_
    refine lv_as (y := if K (p' * 4 + x') = 0 then (-1) else nI (rtN (rdS sh ct ds (p' * 4 + x')) (K (p' * 4 + x')))) ((if_pos (by omega)).symm) ?_
    exact vx_ret (k_wiret (p', x')  hx hb hr hlocks dX0_read_32 (⟨cd1_0 c_2, hp', rfl, hx', rfl⟩) rfl hP hS (Nat.le_of_ble_eq_true rfl) (Nat.le_of_ble_eq_true rfl))
