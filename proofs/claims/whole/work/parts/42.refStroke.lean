theorem inr_0 {a b c d : Int32} (h : rgB a (nI 0) (nI 4) = false ∨ rgB b (nI 0) (nI 4) = false ∨ rgB c (nI 0) (nI 4) = false ∨ rgB d (nI 0) (nI 4) = false) : nI 0 = bI (inB a 5 && inB b 5 && inB c 5 && inB d 5) := by
  rw [rg_in a (by decide), rg_in b (by decide), rg_in c (by decide), rg_in d (by decide)] at h
  have h2 : (inB a 5 && inB b 5 && inB c 5 && inB d 5) = false := by
    rcases h with h | h | h | h <;> rw [h] <;> simp
  rw [h2]; rfl
theorem inr_1 {a b c d : Int32} (h1 : rgB a (nI 0) (nI 4) = true) (h2 : rgB b (nI 0) (nI 4) = true) (h3 : rgB c (nI 0) (nI 4) = true) (h4 : rgB d (nI 0) (nI 4) = true) : nI 1 = bI (inB a 5 && inB b 5 && inB c 5 && inB d 5) := by
  rw [rg_in a (by decide)] at h1
  rw [rg_in b (by decide)] at h2
  rw [rg_in c (by decide)] at h3
  rw [rg_in d (by decide)] at h4
  rw [h1, h2, h3, h4]; rfl
theorem ln_inr {a b c d : Int32} (h : (inB a 5 && inB b 5 && inB c 5 && inB d 5) = false) : lnB a b c d = false := by
  unfold lnB
  rw [h]; rfl
def lnKI (a b c d : Nat) : Bool := (decide (nI c - nI a = 0) || decide (nI d - nI b = 0) || decide (nI c - nI a = nI d - nI b) || decide (nI c - nI a = -(nI d - nI b))) == lnK a b c d
theorem lnKI_all : ∀ a, a < 5 → ∀ b, b < 5 → ∀ c, c < 5 → ∀ d, d < 5 → lnKI a b c d = true := by decide +kernel
theorem lnK_i (a : Nat) (ha : a < 5) (b : Nat) (hb : b < 5) (c : Nat) (hc : c < 5) (d : Nat) (hd : d < 5) : ((nI c - nI a = 0 ∨ nI d - nI b = 0 ∨ nI c - nI a = nI d - nI b ∨ nI c - nI a = -(nI d - nI b)) ↔ lnK a b c d = true) := by
  have h := lnKI_all a ha b hb c hc d hd
  unfold lnKI at h
  rw [beq_iff_eq] at h
  rw [← h]
  simp only [Bool.or_eq_true, decide_eq_true_eq, or_assoc]
theorem ln_1 {a b c d : Nat} (ha : a < 5) (hb : b < 5) (hc : c < 5) (hd : d < 5) (h : nI c - nI a = 0 ∨ nI d - nI b = 0 ∨ nI c - nI a = nI d - nI b ∨ nI c - nI a = -(nI d - nI b)) : nI 1 = bI (lnB (nI a) (nI b) (nI c) (nI d)) := by
  rw [lnB_nI ha hb hc hd, (lnK_i a ha b hb c hc d hd).mp h]; rfl
theorem ln_0 {a b c d : Nat} (ha : a < 5) (hb : b < 5) (hc : c < 5) (hd : d < 5) (h1 : ¬ nI c - nI a = 0) (h2 : ¬ nI d - nI b = 0) (h3 : ¬ nI c - nI a = nI d - nI b) (h4 : ¬ nI c - nI a = -(nI d - nI b)) : nI 0 = bI (lnB (nI a) (nI b) (nI c) (nI d)) := by
  have h : lnK a b c d = false := by
    cases hk : lnK a b c d with
    | false => rfl
    | true =>
      rcases (lnK_i a ha b hb c hc d hd).mpr hk with q | q | q | q
      · exact absurd q h1
      · exact absurd q h2
      · exact absurd q h3
      · exact absurd q h4
  rw [lnB_nI ha hb hc hd, h]; rfl
theorem negd : ∀ a, a < 5 → ∀ c, c < 5 → ¬ 0 ≤ nI c - nI a → -(nI c - nI a) = nI (dist a c) := by decide
theorem dr_p : ∀ a, a < 5 → ∀ c, c < 5 → ¬ nI c - nI a ≤ 0 → dr a c = nI 1 := by decide
theorem dr_n : ∀ a, a < 5 → ∀ c, c < 5 → ¬ 0 ≤ nI c - nI a → dr a c = -1 := by decide
theorem dr_z : ∀ a, a < 5 → ∀ c, c < 5 → nI c - nI a ≤ 0 → 0 ≤ nI c - nI a → dr a c = nI 0 := by decide
theorem kx1 (i : Nat) {a c : Nat} (ha : a < 5) (hc : c < 5) (h : ¬ nI c - nI a ≤ 0) : nI i = nI i * dr a c := by rw [dr_p a ha c hc h, pk_mul, Nat.mul_one]
theorem kx2 (i : Nat) {a c : Nat} (ha : a < 5) (hc : c < 5) (h : ¬ 0 ≤ nI c - nI a) : -nI i = nI i * dr a c := by rw [dr_n a ha c hc h, Int32.mul_neg, Int32.mul_one]
theorem kx3 (i : Nat) {a c : Nat} (ha : a < 5) (hc : c < 5) (h : nI c - nI a ≤ 0) (h2 : 0 ≤ nI c - nI a) : nI 0 = nI i * dr a c := by rw [dr_z a ha c hc h h2, pk_mul, Nat.mul_zero]
theorem lcB_eq (fx fy sx sy : Int32) (k : Nat) : nI 1 <<< ((nI 5 * (fy + nI k * sy) + (fx + nI k * sx)) &&& 31) = lcB fx fy sx sy k := by
  unfold lcB
  rw [Int32.mul_comm (nI 5), ← Int32.add_assoc]
theorem stk_or (bk s c d : Int32) : stk bk (stk bk s c) d = stk bk s (c ||| d) := by
  unfold stk
  split
  · refine b_ext fun i hi => ?_
    simp only [b_and, b_xor, b_or, b_m1 i hi]
    cases bt s i <;> cases bt c i <;> cases bt d i <;> rfl
  · exact Int32.or_assoc s c d
theorem stk_0 (bk s : Int32) : stk bk s (nI 0) = s := by
  unfold stk
  split
  · refine b_ext fun i hi => ?_
    rw [nI_0, b_and, b_xor, b_0, b_m1 i hi]
    cases bt s i <;> rfl
  · refine b_ext fun i hi => ?_
    rw [nI_0, b_or, b_0, Bool.or_false]
set_option maxHeartbeats 4000000 in
set_option maxRecDepth 100000 in
theorem c_X1_stroke (l : Launch) (D : va_G) (cI cZ : ClassId) (q : Nat → Nat) (th : Int32) (sh sp ld nm nk tx mn ds ct : Nat → Int32) (co : Int64) (st at0 ha : Int32) (tk : Nat → Int32) (g a b c0 d0 bk : Int32) (hDt : va_D (fun _ => True) (wm cI cZ q th sh sp ld nm nk tx mn ds ct co st at0 ha tk)) : Met l yX1_stroke wsX1_stroke ({ frames := 2, cells := 0, slots := 0, locals := 42 } : Room) (k_P [.ref (q 0), .int g, .int a, .int b, .int c0, .int d0, .int bk] (k_B D (wm cI cZ q th sh sp ld nm nk tx mn ds ct co st at0 ha tk) [(cI, .int), (cZ, .boolean)])) (k_WQ D (wm cI cZ q th sh sp ld nm nk tx mn ds ct co st at0 ha tk) (fun u : Int32 × Option (Nat × Nat × Nat × Nat × Nat) => u.1 = nI (cd2 (inB g 8) (lnB a b c0 d0)) ∧ u.2.elim (cd2 (inB g 8) (lnB a b c0 d0) ≠ 0) (fun v => cd2 (inB g 8) (lnB a b c0 d0) = 0 ∧ v.1 < 8 ∧ g = nI v.1 ∧ v.2.1 < 5 ∧ v.2.2.1 < 5 ∧ v.2.2.2.1 < 5 ∧ v.2.2.2.2 < 5 ∧ a = nI v.2.1 ∧ b = nI v.2.2.1 ∧ c0 = nI v.2.2.2.1 ∧ d0 = nI v.2.2.2.2 ∧ lnK v.2.1 v.2.2.1 v.2.2.2.1 v.2.2.2.2 = true)) (fun u => wm cI cZ q u.1 (u.2.elim sh (fun v => upd sh v.1 (stk bk (sh v.1) (lcN v.2.1 v.2.2.1 v.2.2.2.1 v.2.2.2.2)))) sp ld nm nk tx mn ds ct co st at0 ha tk) (fun u => some (.int (u.2.elim (nI 0) (fun v => df (sh v.1) (stk bk (sh v.1) (lcN v.2.1 v.2.2.1 v.2.2.2.1 v.2.2.2.2))))))) 0 0 (k_A (wm cI cZ q th sh sp ld nm nk tx mn ds ct co st at0 ha tk)) := by
  refine k_head (cc := cX1_stroke) (maxL := 19) (ret := (some .int)) [(0, .ref (q 0)), (1, .int g), (2, .int a), (3, .int b), (4, .int c0), (5, .int d0), (6, .int bk)] (by decide) rfl (Nat.le_of_ble_eq_true rfl) rfl ?_
  intro p e s m below meth c ls hx hb hr hml hown hts hlocks hname hB hl
  have hown : s.vm.findClass RX1 = some m.cls := hown
  obtain ⟨hP, hK⟩ := hB
  have hin : ∀ w ∈ wsX10, w ∈ wsX1_stroke := fun w h => List.mem_cons_of_mem _ (List.mem_append_right _ h)
  have hD := k_A_D hDt
  have hS : va_S (k_A (wm cI cZ q th sh sp ld nm nk tx mn ds ct co st at0 ha tk)) s.heap s.heap [] := va_S.rf
  refine W.joinI (pc2 := 43) (st2 := []) (J := fun v => v = bI (inB a 5 && inB b 5 && inB c0 5 && inB d0 5)) (fun j_43 => ?_) (fun v_43 hv_43 => ?_)
  · refine lv_iload_n hx hb dX1_stroke_0 rfl (lv_at hl 2 rfl) ?_
    refine lv_iconst (v := nI 0) hx hb dX1_stroke_1 (by decide) ?_
    refine lv_iconst (v := nI 4) hx hb dX1_stroke_2 (by decide) ?_
    refine k_callSi (As := [.int a, .int (nI 0), .int (nI 4)]) (rest := []) ⟨hx, hb, hml, hown, hts⟩ (c_X1_in l a (nI 0) (nI 4)) (va_cwS 3 hts gX1_stroke_X1_in rfl rfl rfl (by decide +kernel) ⟨Nat.le_of_ble_eq_true rfl, Nat.le_of_ble_eq_true rfl⟩) k_bl_tt (fun _ _ _ => trivial) rfl hl.1 rfl (Nat.le_of_ble_eq_true rfl) dX1_stroke_3 ⟨Nat.zero_le _, Nat.zero_le _⟩ ?_
    refine b_if_eq (tgt := 42) hx hb dX1_stroke_6 (by decide) (fun c_6 => ?_) (fun c_6 => ?_)
    · refine lv_iconst (v := nI 0) hx hb dX1_stroke_42 (by decide) ?_
      exact j_43 _ (by first | exact inr_0 (Or.inl c_6) | exact inr_0 (Or.inr (Or.inl c_15)) | exact inr_0 (Or.inr (Or.inr (Or.inl c_25))) | exact inr_0 (Or.inr (Or.inr (Or.inr c_35))))
    · refine lv_iload_n hx hb dX1_stroke_9 rfl (lv_at hl 3 rfl) ?_
      refine lv_iconst (v := nI 0) hx hb dX1_stroke_10 (by decide) ?_
      refine lv_iconst (v := nI 4) hx hb dX1_stroke_11 (by decide) ?_
      refine k_callSi (As := [.int b, .int (nI 0), .int (nI 4)]) (rest := []) ⟨hx, hb, hml, hown, hts⟩ (c_X1_in l b (nI 0) (nI 4)) (va_cwS 3 hts gX1_stroke_X1_in rfl rfl rfl (by decide +kernel) ⟨Nat.le_of_ble_eq_true rfl, Nat.le_of_ble_eq_true rfl⟩) k_bl_tt (fun _ _ _ => trivial) rfl hl.1 rfl (Nat.le_of_ble_eq_true rfl) dX1_stroke_12 ⟨Nat.zero_le _, Nat.zero_le _⟩ ?_
      refine b_if_eq (tgt := 42) hx hb dX1_stroke_15 (by decide) (fun c_15 => ?_) (fun c_15 => ?_)
      · refine lv_iconst (v := nI 0) hx hb dX1_stroke_42 (by decide) ?_
        exact j_43 _ (by first | exact inr_0 (Or.inl c_6) | exact inr_0 (Or.inr (Or.inl c_15)) | exact inr_0 (Or.inr (Or.inr (Or.inl c_25))) | exact inr_0 (Or.inr (Or.inr (Or.inr c_35))))
      · refine lv_iload hx hb dX1_stroke_18 (lv_at hl 4 rfl) ?_
        refine lv_iconst (v := nI 0) hx hb dX1_stroke_20 (by decide) ?_
        refine lv_iconst (v := nI 4) hx hb dX1_stroke_21 (by decide) ?_
        refine k_callSi (As := [.int c0, .int (nI 0), .int (nI 4)]) (rest := []) ⟨hx, hb, hml, hown, hts⟩ (c_X1_in l c0 (nI 0) (nI 4)) (va_cwS 3 hts gX1_stroke_X1_in rfl rfl rfl (by decide +kernel) ⟨Nat.le_of_ble_eq_true rfl, Nat.le_of_ble_eq_true rfl⟩) k_bl_tt (fun _ _ _ => trivial) rfl hl.1 rfl (Nat.le_of_ble_eq_true rfl) dX1_stroke_22 ⟨Nat.zero_le _, Nat.zero_le _⟩ ?_
        refine b_if_eq (tgt := 42) hx hb dX1_stroke_25 (by decide) (fun c_25 => ?_) (fun c_25 => ?_)
        · refine lv_iconst (v := nI 0) hx hb dX1_stroke_42 (by decide) ?_
          exact j_43 _ (by first | exact inr_0 (Or.inl c_6) | exact inr_0 (Or.inr (Or.inl c_15)) | exact inr_0 (Or.inr (Or.inr (Or.inl c_25))) | exact inr_0 (Or.inr (Or.inr (Or.inr c_35))))
        · refine lv_iload hx hb dX1_stroke_28 (lv_at hl 5 rfl) ?_
          refine lv_iconst (v := nI 0) hx hb dX1_stroke_30 (by decide) ?_
          refine lv_iconst (v := nI 4) hx hb dX1_stroke_31 (by decide) ?_
          refine k_callSi (As := [.int d0, .int (nI 0), .int (nI 4)]) (rest := []) ⟨hx, hb, hml, hown, hts⟩ (c_X1_in l d0 (nI 0) (nI 4)) (va_cwS 3 hts gX1_stroke_X1_in rfl rfl rfl (by decide +kernel) ⟨Nat.le_of_ble_eq_true rfl, Nat.le_of_ble_eq_true rfl⟩) k_bl_tt (fun _ _ _ => trivial) rfl hl.1 rfl (Nat.le_of_ble_eq_true rfl) dX1_stroke_32 ⟨Nat.zero_le _, Nat.zero_le _⟩ ?_
          refine b_if_eq (tgt := 42) hx hb dX1_stroke_35 (by decide) (fun c_35 => ?_) (fun c_35 => ?_)
          · refine lv_iconst (v := nI 0) hx hb dX1_stroke_42 (by decide) ?_
            exact j_43 _ (by first | exact inr_0 (Or.inl c_6) | exact inr_0 (Or.inr (Or.inl c_15)) | exact inr_0 (Or.inr (Or.inr (Or.inl c_25))) | exact inr_0 (Or.inr (Or.inr (Or.inr c_35))))
          · refine lv_iconst (v := nI 1) hx hb dX1_stroke_38 (by decide) ?_
            refine lv_goto (tgt := 43) hx hb dX1_stroke_39 (by decide) ?_
            exact j_43 _ (inr_1 c_6 c_15 c_25 c_35)
  · subst hv_43
    refine lv_istore (lv' := [(7, .int (bI (inB a 5 && inB b 5 && inB c0 5 && inB d0 5))), (0, .ref (q 0)), (1, .int g), (2, .int a), (3, .int b), (4, .int c0), (5, .int d0), (6, .int bk)]) hx hb dX1_stroke_43 hl (by decide) rfl (fun ls hl => ?_)
    refine lv_iload_n hx hb dX1_stroke_45 rfl (lv_at hl 2 rfl) ?_
    refine k_callSi (As := [.int g]) (rest := []) ⟨hx, hb, hml, hown, hts⟩ (c_X1_isGlyph l g) (va_cwS 1 hts gX1_stroke_X1_isGlyph rfl rfl rfl (by decide +kernel) ⟨Nat.le_of_ble_eq_true rfl, Nat.le_of_ble_eq_true rfl⟩) k_bl_tt (fun _ _ _ => trivial) rfl hl.1 rfl (Nat.le_of_ble_eq_true rfl) dX1_stroke_46 ⟨Nat.zero_le _, Nat.zero_le _⟩ ?_
    refine b_if_ne (tgt := 58) hx hb dX1_stroke_49 (by decide) (fun c_49 => ?_) (fun c_49 => ?_)
    · obtain ⟨g', hg', rfl⟩ := inB_ex (by decide) (c_49)
      refine lv_iload hx hb dX1_stroke_58 (lv_at hl 5 rfl) ?_
      refine lv_iload_n hx hb dX1_stroke_60 rfl (lv_at hl 3 rfl) ?_
      refine lv_isub hx hb dX1_stroke_61 ?_
      refine lv_istore (lv' := [(8, .int (c0 - a)), (7, .int (bI (inB a 5 && inB b 5 && inB c0 5 && inB d0 5))), (0, .ref (q 0)), (1, .int (nI g')), (2, .int a), (3, .int b), (4, .int c0), (5, .int d0), (6, .int bk)]) hx hb dX1_stroke_62 hl (by decide) rfl (fun ls hl => ?_)
      refine lv_iload hx hb dX1_stroke_64 (lv_at hl 7 rfl) ?_
      refine lv_iload_n hx hb dX1_stroke_66 rfl (lv_at hl 5 rfl) ?_
      refine lv_isub hx hb dX1_stroke_67 ?_
      refine lv_istore (lv' := [(9, .int (d0 - b)), (8, .int (c0 - a)), (7, .int (bI (inB a 5 && inB b 5 && inB c0 5 && inB d0 5))), (0, .ref (q 0)), (1, .int (nI g')), (2, .int a), (3, .int b), (4, .int c0), (5, .int d0), (6, .int bk)]) hx hb dX1_stroke_68 hl (by decide) rfl (fun ls hl => ?_)
      refine W.joinI (pc2 := 105) (st2 := []) (J := fun v => v = bI (lnB a b c0 d0)) (fun j_105 => ?_) (fun v_105 hv_105 => ?_)
      · refine lv_iload hx hb dX1_stroke_70 (lv_at hl 2 rfl) ?_
        refine b_if_eq (tgt := 104) hx hb dX1_stroke_72 (by decide) (fun c_72 => ?_) (fun c_72 => ?_)
        · refine lv_iconst (v := nI 0) hx hb dX1_stroke_104 (by decide) ?_
          exact j_105 _ (by first | (rw [ln_inr c_72]; rfl) | exact ln_0 ha' hb' hc' hd' c_77 c_82 c_89 c_97)
        · obtain ⟨h123, h4⟩ := Bool.and_eq_true_iff.mp c_72
          obtain ⟨h12, h3⟩ := Bool.and_eq_true_iff.mp h123
          obtain ⟨h1, h2⟩ := Bool.and_eq_true_iff.mp h12
          obtain ⟨a', ha', rfl⟩ := inB_ex (by decide) (h1)
          obtain ⟨b', hb', rfl⟩ := inB_ex (by decide) (h2)
          obtain ⟨c', hc', rfl⟩ := inB_ex (by decide) (h3)
          obtain ⟨d', hd', rfl⟩ := inB_ex (by decide) (h4)
          refine lv_iload hx hb dX1_stroke_75 (lv_at hl 1 rfl) ?_
          refine lv_if_eq (tgt := 100) hx hb dX1_stroke_77 (by decide) (fun c_77 => ?_) (fun c_77 => ?_)
          · refine lv_iconst (v := nI 1) hx hb dX1_stroke_100 (by decide) ?_
            refine lv_goto (tgt := 105) hx hb dX1_stroke_101 (by decide) ?_
            exact j_105 _ (by first | exact ln_1 ha' hb' hc' hd' (Or.inl c_77) | exact ln_1 ha' hb' hc' hd' (Or.inr (Or.inl c_82)) | exact ln_1 ha' hb' hc' hd' (Or.inr (Or.inr (Or.inl c_89))) | exact ln_1 ha' hb' hc' hd' (Or.inr (Or.inr (Or.inr c_97))))
          · refine lv_iload hx hb dX1_stroke_80 (lv_at hl 0 rfl) ?_
            refine lv_if_eq (tgt := 100) hx hb dX1_stroke_82 (by decide) (fun c_82 => ?_) (fun c_82 => ?_)
            · refine lv_iconst (v := nI 1) hx hb dX1_stroke_100 (by decide) ?_
              refine lv_goto (tgt := 105) hx hb dX1_stroke_101 (by decide) ?_
              exact j_105 _ (by first | exact ln_1 ha' hb' hc' hd' (Or.inl c_77) | exact ln_1 ha' hb' hc' hd' (Or.inr (Or.inl c_82)) | exact ln_1 ha' hb' hc' hd' (Or.inr (Or.inr (Or.inl c_89))) | exact ln_1 ha' hb' hc' hd' (Or.inr (Or.inr (Or.inr c_97))))
            · refine lv_iload hx hb dX1_stroke_85 (lv_at hl 1 rfl) ?_
              refine lv_iload hx hb dX1_stroke_87 (lv_at hl 0 rfl) ?_
              refine lv_icmp_eq (tgt := 100) hx hb dX1_stroke_89 (by decide) (fun c_89 => ?_) (fun c_89 => ?_)
              · refine lv_iconst (v := nI 1) hx hb dX1_stroke_100 (by decide) ?_
                refine lv_goto (tgt := 105) hx hb dX1_stroke_101 (by decide) ?_
                exact j_105 _ (by first | exact ln_1 ha' hb' hc' hd' (Or.inl c_77) | exact ln_1 ha' hb' hc' hd' (Or.inr (Or.inl c_82)) | exact ln_1 ha' hb' hc' hd' (Or.inr (Or.inr (Or.inl c_89))) | exact ln_1 ha' hb' hc' hd' (Or.inr (Or.inr (Or.inr c_97))))
              · refine lv_iload hx hb dX1_stroke_92 (lv_at hl 1 rfl) ?_
                refine lv_iload hx hb dX1_stroke_94 (lv_at hl 0 rfl) ?_
                refine lv_ineg hx hb dX1_stroke_96 ?_
                refine lv_icmp_ne (tgt := 104) hx hb dX1_stroke_97 (by decide) (fun c_97 => ?_) (fun c_97 => ?_)
                · refine lv_iconst (v := nI 0) hx hb dX1_stroke_104 (by decide) ?_
                  exact j_105 _ (by first | (rw [ln_inr c_72]; rfl) | exact ln_0 ha' hb' hc' hd' c_77 c_82 c_89 c_97)
                · refine lv_iconst (v := nI 1) hx hb dX1_stroke_100 (by decide) ?_
                  refine lv_goto (tgt := 105) hx hb dX1_stroke_101 (by decide) ?_
                  exact j_105 _ (by first | exact ln_1 ha' hb' hc' hd' (Or.inl c_77) | exact ln_1 ha' hb' hc' hd' (Or.inr (Or.inl c_82)) | exact ln_1 ha' hb' hc' hd' (Or.inr (Or.inr (Or.inl c_89))) | exact ln_1 ha' hb' hc' hd' (Or.inr (Or.inr (Or.inr c_97))))
      · subst hv_105
        refine lv_istore (lv' := [(10, .int (bI (lnB a b c0 d0))), (9, .int (d0 - b)), (8, .int (c0 - a)), (7, .int (bI (inB a 5 && inB b 5 && inB c0 5 && inB d0 5))), (0, .ref (q 0)), (1, .int (nI g')), (2, .int a), (3, .int b), (4, .int c0), (5, .int d0), (6, .int bk)]) hx hb dX1_stroke_105 hl (by decide) rfl (fun ls hl => ?_)
        refine lv_aload_n hx hb dX1_stroke_107 rfl (lv_at hl 4 rfl) ?_
        refine lv_iload hx hb dX1_stroke_108 (lv_at hl 0 rfl) ?_
        refine b_if_eq (tgt := 117) hx hb dX1_stroke_110 (by decide) (fun c_110 => ?_) (fun c_110 => ?_)
        · refine lv_iconst (v := nI 2) hx hb dX1_stroke_117 (by decide) ?_
          refine va_put (D := D) (ci := 1) (v := .int (nI 2)) (ty := .int) (C := RX1) (T := TX1) (N := 15) hx hb hts hin tyX1 tyX1_ok nmX1 hown hK hP hD hS 0 rfl rfl 0 (by decide) (hts (.fieldLink RX1 41 "SignRailModel" "thrown" "I") (by decide +kernel)) (fun _ h9 => h9) rfl (by decide +kernel) (rfl) (rfl) (Nat.le_of_ble_eq_true rfl) dX1_stroke_118 (fun H locs hP hD hS => ?_)
          have hP : va_P D vwCl (wm cI cZ q (nI 2) sh sp ld nm nk tx mn ds ct co st at0 ha tk) H := hP
          have hD : va_D _ (wm cI cZ q (nI 2) sh sp ld nm nk tx mn ds ct co st at0 ha tk) := hD
          refine lv_aload_n hx hb dX1_stroke_121 rfl (lv_at hl 4 rfl) ?_
          refine va_get (D := D) (ci := 1) (v := .int (nI 2)) (C := RX1) (T := TX1) (N := 15) hx hb hts hin hown hK hP 0 rfl rfl 0 (by decide) (hts (.fieldLink RX1 41 "SignRailModel" "thrown" "I") (by decide +kernel)) (fun _ h9 => h9) rfl dX1_stroke_122 ?_
          refine n_if_le (tgt := 130) hx hb dX1_stroke_125 (by decide) (by decide) (fun c_125 => absurd c_125 (by decide)) (fun _ => ?_)
          refine lv_iconst (v := nI 0) hx hb dX1_stroke_128 (by decide) ?_
          exact k_wiret (nI 2, none)  hx hb hr hlocks dX1_stroke_129 (k_no (cd2_2 c_49 c_110) (by decide)) rfl hP hS (Nat.le_of_ble_eq_true rfl) (Nat.le_of_ble_eq_true rfl)
        · obtain ⟨a', b', c', d', ha', hb', hc', hd', rfl, rfl, rfl, rfl, hln⟩ := lnB_ex c_110
          have hda := dist_lt a' ha' c' hc'
          have hdb := dist_lt b' hb' d' hd'
          refine lv_iconst (v := nI 0) hx hb dX1_stroke_113 (by decide) ?_
          refine lv_goto (tgt := 118) hx hb dX1_stroke_114 (by decide) ?_
          refine va_put (D := D) (ci := 1) (v := .int (nI 0)) (ty := .int) (C := RX1) (T := TX1) (N := 15) hx hb hts hin tyX1 tyX1_ok nmX1 hown hK hP hD hS 0 rfl rfl 0 (by decide) (hts (.fieldLink RX1 41 "SignRailModel" "thrown" "I") (by decide +kernel)) (fun _ h9 => h9) rfl (by decide +kernel) (rfl) (rfl) (Nat.le_of_ble_eq_true rfl) dX1_stroke_118 (fun H locs hP hD hS => ?_)
          have hP : va_P D vwCl (wm cI cZ q (nI 0) sh sp ld nm nk tx mn ds ct co st at0 ha tk) H := hP
          have hD : va_D _ (wm cI cZ q (nI 0) sh sp ld nm nk tx mn ds ct co st at0 ha tk) := hD
          refine lv_aload_n hx hb dX1_stroke_121 rfl (lv_at hl 4 rfl) ?_
          refine va_get (D := D) (ci := 1) (v := .int (nI 0)) (C := RX1) (T := TX1) (N := 15) hx hb hts hin hown hK hP 0 rfl rfl 0 (by decide) (hts (.fieldLink RX1 41 "SignRailModel" "thrown" "I") (by decide +kernel)) (fun _ h9 => h9) rfl dX1_stroke_122 ?_
          refine n_if_le (tgt := 130) hx hb dX1_stroke_125 (by decide) (by decide) (fun _ => ?_) (fun c_125 => absurd c_125 (by decide))
          refine W.joinI (pc2 := 143) (st2 := []) (J := fun v => v = nI (dist a' c')) (fun j_143 => ?_) (fun v_143 hv_143 => ?_)
          · refine lv_iload hx hb dX1_stroke_130 (lv_at hl 2 rfl) ?_
            refine lv_if_ge (tgt := 141) hx hb dX1_stroke_132 (by decide) (fun c_132 => ?_) (fun c_132 => ?_)
            · refine lv_iload hx hb dX1_stroke_141 (lv_at hl 2 rfl) ?_
              exact j_143 _ ((if_pos c_132).symm.trans (absd a' ha' c' hc'))
            · refine lv_iload hx hb dX1_stroke_135 (lv_at hl 2 rfl) ?_
              refine lv_ineg hx hb dX1_stroke_137 ?_
              refine lv_goto (tgt := 143) hx hb dX1_stroke_138 (by decide) ?_
              exact j_143 _ (negd a' ha' c' hc' c_132)
          · subst hv_143
            refine lv_istore (lv' := [(11, .int (nI (dist a' c'))), (10, .int (bI (lnB (nI a') (nI b') (nI c') (nI d')))), (9, .int ((nI d') - (nI b'))), (8, .int ((nI c') - (nI a'))), (7, .int (bI (inB (nI a') 5 && inB (nI b') 5 && inB (nI c') 5 && inB (nI d') 5))), (0, .ref (q 0)), (1, .int (nI g')), (2, .int (nI a')), (3, .int (nI b')), (4, .int (nI c')), (5, .int (nI d')), (6, .int bk)]) hx hb dX1_stroke_143 hl (by decide) rfl (fun ls hl => ?_)
            refine W.joinI (pc2 := 158) (st2 := []) (J := fun v => v = nI (dist b' d')) (fun j_158 => ?_) (fun v_158 hv_158 => ?_)
            · refine lv_iload hx hb dX1_stroke_145 (lv_at hl 2 rfl) ?_
              refine lv_if_ge (tgt := 156) hx hb dX1_stroke_147 (by decide) (fun c_147 => ?_) (fun c_147 => ?_)
              · refine lv_iload hx hb dX1_stroke_156 (lv_at hl 2 rfl) ?_
                exact j_158 _ ((if_pos c_147).symm.trans (absd b' hb' d' hd'))
              · refine lv_iload hx hb dX1_stroke_150 (lv_at hl 2 rfl) ?_
                refine lv_ineg hx hb dX1_stroke_152 ?_
                refine lv_goto (tgt := 158) hx hb dX1_stroke_153 (by decide) ?_
                exact j_158 _ (negd b' hb' d' hd' c_147)
            · subst hv_158
              refine lv_istore (lv' := [(12, .int (nI (dist b' d'))), (11, .int (nI (dist a' c'))), (10, .int (bI (lnB (nI a') (nI b') (nI c') (nI d')))), (9, .int ((nI d') - (nI b'))), (8, .int ((nI c') - (nI a'))), (7, .int (bI (inB (nI a') 5 && inB (nI b') 5 && inB (nI c') 5 && inB (nI d') 5))), (0, .ref (q 0)), (1, .int (nI g')), (2, .int (nI a')), (3, .int (nI b')), (4, .int (nI c')), (5, .int (nI d')), (6, .int bk)]) hx hb dX1_stroke_158 hl (by decide) rfl (fun ls hl => ?_)
              refine W.joinI (pc2 := 174) (st2 := []) (J := fun v => v = nI (max (dist a' c') (dist b' d'))) (fun j_174 => ?_) (fun v_174 hv_174 => ?_)
              · refine lv_iload hx hb dX1_stroke_160 (lv_at hl 1 rfl) ?_
                refine lv_iload hx hb dX1_stroke_162 (lv_at hl 0 rfl) ?_
                refine n_icmp_le (tgt := 172) hx hb dX1_stroke_164 (by decide) (by omega) (by omega) (fun c_164 => ?_) (fun c_164 => ?_)
                · refine lv_iload hx hb dX1_stroke_172 (lv_at hl 0 rfl) ?_
                  exact j_174 _ (by rw [Nat.max_eq_right c_164])
                · refine lv_iload hx hb dX1_stroke_167 (lv_at hl 1 rfl) ?_
                  refine lv_goto (tgt := 174) hx hb dX1_stroke_169 (by decide) ?_
                  exact j_174 _ (by rw [Nat.max_eq_left (Nat.le_of_lt c_164)])
              · subst hv_174
                refine lv_istore (lv' := [(13, .int (nI (max (dist a' c') (dist b' d')))), (12, .int (nI (dist b' d'))), (11, .int (nI (dist a' c'))), (10, .int (bI (lnB (nI a') (nI b') (nI c') (nI d')))), (9, .int ((nI d') - (nI b'))), (8, .int ((nI c') - (nI a'))), (7, .int (bI (inB (nI a') 5 && inB (nI b') 5 && inB (nI c') 5 && inB (nI d') 5))), (0, .ref (q 0)), (1, .int (nI g')), (2, .int (nI a')), (3, .int (nI b')), (4, .int (nI c')), (5, .int (nI d')), (6, .int bk)]) hx hb dX1_stroke_174 hl (by decide) rfl (fun ls hl => ?_)
                refine lv_aload_n hx hb dX1_stroke_176 rfl (lv_at hl 7 rfl) ?_
                refine va_get (D := D) (ci := 1) (v := .ref (q 1)) (C := RX1) (T := TX1) (N := 15) hx hb hts hin hown hK hP 0 rfl rfl 1 (by decide) (hts (.fieldLink RX1 7 "SignRailModel" "shapes" "[I") (by decide +kernel)) (fun _ h9 => h9) rfl dX1_stroke_177 ?_
                refine lv_iload_n hx hb dX1_stroke_180 rfl (lv_at hl 8 rfl) ?_
                refine n_iald hx hb hK hP 1 0 rfl rfl (k := g') (by omega) (Nat.le_of_ble_eq_true rfl) dX1_stroke_181 ?_
                refine lv_istore (lv' := [(14, .int (sh g')), (13, .int (nI (max (dist a' c') (dist b' d')))), (12, .int (nI (dist b' d'))), (11, .int (nI (dist a' c'))), (10, .int (bI (lnB (nI a') (nI b') (nI c') (nI d')))), (9, .int ((nI d') - (nI b'))), (8, .int ((nI c') - (nI a'))), (7, .int (bI (inB (nI a') 5 && inB (nI b') 5 && inB (nI c') 5 && inB (nI d') 5))), (0, .ref (q 0)), (1, .int (nI g')), (2, .int (nI a')), (3, .int (nI b')), (4, .int (nI c')), (5, .int (nI d')), (6, .int bk)]) hx hb dX1_stroke_182 hl (by decide) rfl (fun ls hl => ?_)
                refine lv_iconst (v := nI 0) hx hb dX1_stroke_184 (by decide) ?_
                refine lv_istore (lv' := [(15, .int (nI 0)), (14, .int (sh g')), (13, .int (nI (max (dist a' c') (dist b' d')))), (12, .int (nI (dist b' d'))), (11, .int (nI (dist a' c'))), (10, .int (bI (lnB (nI a') (nI b') (nI c') (nI d')))), (9, .int ((nI d') - (nI b'))), (8, .int ((nI c') - (nI a'))), (7, .int (bI (inB (nI a') 5 && inB (nI b') 5 && inB (nI c') 5 && inB (nI d') 5))), (0, .ref (q 0)), (1, .int (nI g')), (2, .int (nI a')), (3, .int (nI b')), (4, .int (nI c')), (5, .int (nI d')), (6, .int bk)]) hx hb dX1_stroke_185 hl (by decide) rfl (fun ls hl => ?_)
                refine W.loopH (fun i H locs ls => ∃ (sh1 : Nat → Int32), (sh1 = upd sh g' (stk bk (sh g') (lcF (nI a') (nI b') (dr a' c') (dr b' d') i))) ∧ va_P D vwCl (wm cI cZ q (nI 0) sh1 sp ld nm nk tx mn ds ct co st at0 ha tk) H ∧ va_D (k_A (wm cI cZ q th sh sp ld nm nk tx mn ds ct co st at0 ha tk)) (wm cI cZ q (nI 0) sh1 sp ld nm nk tx mn ds ct co st at0 ha tk) ∧ va_S (k_A (wm cI cZ q th sh sp ld nm nk tx mn ds ct co st at0 ha tk)) s.heap H locs ∧ lv_has ls 19 [(0, .ref (q 0)), (1, .int (nI g')), (2, .int (nI a')), (3, .int (nI b')), (6, .int bk), (8, .int (nI c' - nI a')), (9, .int (nI d' - nI b')), (13, .int (nI (max (dist a' c') (dist b' d')))), (14, .int (sh g')), (15, .int (nI i))]) (lnN a' b' c' d') (0) (by omega) ⟨sh, by rw [show lcF _ _ _ _ 0 = nI 0 from rfl, stk_0]; exact (fa_upd_same rfl).symm, hP, hD, hS, lv_sub hl [9, 10, 11, 12, 15, 7, 6, 2, 1, 0] rfl⟩ ?_
                intro i H locs ls hi_187 hI_187 ih_187
                obtain ⟨sh1, hf0_187, hP, hD, hS, hl⟩ := hI_187
                refine lv_iload hx hb dX1_stroke_187 (lv_at hl 9 rfl) ?_
                refine lv_iload hx hb dX1_stroke_189 (lv_at hl 7 rfl) ?_
                refine n_icmp_gt (tgt := 297) hx hb dX1_stroke_191 (by decide) (by have : lnN a' b' c' d' = max (dist a' c') (dist b' d') + 1 := rfl; omega) (by omega) (fun c_191 => ?_) (fun c_191 => ?_)
                · have hsh1 : sh1 = upd sh g' (stk bk (sh g') (lcN a' b' c' d')) := by rw [hf0_187, show i = lnN a' b' c' d' from by unfold lnN at hi_187 ⊢; omega]
                  subst hsh1
                  refine lv_iload hx hb dX1_stroke_297 (lv_at hl 8 rfl) ?_
                  refine lv_aload_n hx hb dX1_stroke_299 rfl (lv_at hl 0 rfl) ?_
                  refine va_get (D := D) (ci := 1) (v := .ref (q 1)) (C := RX1) (T := TX1) (N := 15) hx hb hts hin hown hK hP 0 rfl rfl 1 (by decide) (hts (.fieldLink RX1 7 "SignRailModel" "shapes" "[I") (by decide +kernel)) (fun _ h9 => h9) rfl dX1_stroke_300 ?_
                  refine lv_iload_n hx hb dX1_stroke_303 rfl (lv_at hl 1 rfl) ?_
                  refine n_iald hx hb hK hP 1 0 rfl rfl (k := g') (by omega) (Nat.le_of_ble_eq_true rfl) dX1_stroke_304 ?_
                  refine lv_ixor hx hb dX1_stroke_305 ?_
                  refine k_callSi (As := [.int ((sh g') ^^^ ((upd sh g' (stk bk (sh g') (lcN a' b' c' d'))) g'))]) (rest := []) ⟨hx, hb, hml, hown, hts⟩ (c_X1_bits l ((sh g') ^^^ ((upd sh g' (stk bk (sh g') (lcN a' b' c' d'))) g'))) (va_cwS 1 hts gX1_stroke_X1_bits rfl rfl rfl (by decide +kernel) ⟨Nat.le_of_ble_eq_true rfl, Nat.le_of_ble_eq_true rfl⟩) k_bl_tt (fun _ _ _ => trivial) rfl hl.1 rfl (Nat.le_of_ble_eq_true rfl) dX1_stroke_306 ⟨Nat.zero_le _, Nat.zero_le _⟩ ?_
                  refine lv_as (y := df (sh g') (stk bk (sh g') (lcN a' b' c' d'))) (by rw [pk_us]; rfl) ?_
                  exact k_wiret (nI 0, some (g', a', b', c', d'))  hx hb hr hlocks dX1_stroke_309 (⟨(congrArg nI (cd2_0 c_49 c_110)).symm, (cd2_0 c_49 c_110), hg', rfl, ha', hb', hc', hd', rfl, rfl, rfl, rfl, hln⟩) rfl hP hS (Nat.le_of_ble_eq_true rfl) (Nat.le_of_ble_eq_true rfl)
                · refine lv_iload_n hx hb dX1_stroke_194 rfl (lv_at hl 2 rfl) ?_
                  refine W.joinI (pc2 := 217) (st2 := [.int (nI a')]) (J := fun v => v = nI i * dr a' c') (fun j_217 => ?_) (fun v_217 hv_217 => ?_)
                  · refine lv_iload hx hb dX1_stroke_195 (lv_at hl 5 rfl) ?_
                    refine lv_if_le (tgt := 205) hx hb dX1_stroke_197 (by decide) (fun c_197 => ?_) (fun c_197 => ?_)
                    · refine lv_iload hx hb dX1_stroke_205 (lv_at hl 5 rfl) ?_
                      refine lv_if_ge (tgt := 216) hx hb dX1_stroke_207 (by decide) (fun c_207 => ?_) (fun c_207 => ?_)
                      · refine lv_iconst (v := nI 0) hx hb dX1_stroke_216 (by decide) ?_
                        exact j_217 _ (kx3 i ha' hc' c_197 c_207)
                      · refine lv_iload hx hb dX1_stroke_210 (lv_at hl 9 rfl) ?_
                        refine lv_ineg hx hb dX1_stroke_212 ?_
                        refine lv_goto (tgt := 217) hx hb dX1_stroke_213 (by decide) ?_
                        exact j_217 _ (kx2 i ha' hc' c_207)
                    · refine lv_iload hx hb dX1_stroke_200 (lv_at hl 9 rfl) ?_
                      refine lv_goto (tgt := 217) hx hb dX1_stroke_202 (by decide) ?_
                      exact j_217 _ (kx1 i ha' hc' c_197)
                  · subst hv_217
                    refine lv_iadd hx hb dX1_stroke_217 ?_
                    refine lv_istore (lv' := [(16, .int ((nI a') + (nI i * dr a' c'))), (0, .ref (q 0)), (1, .int (nI g')), (2, .int (nI a')), (3, .int (nI b')), (6, .int bk), (8, .int (nI c' - nI a')), (9, .int (nI d' - nI b')), (13, .int (nI (max (dist a' c') (dist b' d')))), (14, .int (sh g')), (15, .int (nI i))]) hx hb dX1_stroke_218 hl (by decide) rfl (fun ls hl => ?_)
                    refine lv_iload_n hx hb dX1_stroke_220 rfl (lv_at hl 4 rfl) ?_
                    refine W.joinI (pc2 := 243) (st2 := [.int (nI b')]) (J := fun v => v = nI i * dr b' d') (fun j_243 => ?_) (fun v_243 hv_243 => ?_)
                    · refine lv_iload hx hb dX1_stroke_221 (lv_at hl 7 rfl) ?_
                      refine lv_if_le (tgt := 231) hx hb dX1_stroke_223 (by decide) (fun c_223 => ?_) (fun c_223 => ?_)
                      · refine lv_iload hx hb dX1_stroke_231 (lv_at hl 7 rfl) ?_
                        refine lv_if_ge (tgt := 242) hx hb dX1_stroke_233 (by decide) (fun c_233 => ?_) (fun c_233 => ?_)
                        · refine lv_iconst (v := nI 0) hx hb dX1_stroke_242 (by decide) ?_
                          exact j_243 _ (kx3 i hb' hd' c_223 c_233)
                        · refine lv_iload hx hb dX1_stroke_236 (lv_at hl 10 rfl) ?_
                          refine lv_ineg hx hb dX1_stroke_238 ?_
                          refine lv_goto (tgt := 243) hx hb dX1_stroke_239 (by decide) ?_
                          exact j_243 _ (kx2 i hb' hd' c_233)
                      · refine lv_iload hx hb dX1_stroke_226 (lv_at hl 10 rfl) ?_
                        refine lv_goto (tgt := 243) hx hb dX1_stroke_228 (by decide) ?_
                        exact j_243 _ (kx1 i hb' hd' c_223)
                    · subst hv_243
                      refine lv_iadd hx hb dX1_stroke_243 ?_
                      refine lv_istore (lv' := [(17, .int ((nI b') + (nI i * dr b' d'))), (16, .int ((nI a') + (nI i * dr a' c'))), (0, .ref (q 0)), (1, .int (nI g')), (2, .int (nI a')), (3, .int (nI b')), (6, .int bk), (8, .int (nI c' - nI a')), (9, .int (nI d' - nI b')), (13, .int (nI (max (dist a' c') (dist b' d')))), (14, .int (sh g')), (15, .int (nI i))]) hx hb dX1_stroke_244 hl (by decide) rfl (fun ls hl => ?_)
                      refine lv_iconst (v := nI 1) hx hb dX1_stroke_246 (by decide) ?_
                      refine lv_iconst (v := nI 5) hx hb dX1_stroke_247 (by decide) ?_
                      refine lv_iload hx hb dX1_stroke_248 (lv_at hl 0 rfl) ?_
                      refine lv_imul hx hb dX1_stroke_250 ?_
                      refine lv_iload hx hb dX1_stroke_251 (lv_at hl 1 rfl) ?_
                      refine lv_iadd hx hb dX1_stroke_253 ?_
                      refine lv_ishl hx hb dX1_stroke_254 ?_
                      refine lv_as (y := lcB (nI a') (nI b') (dr a' c') (dr b' d') i) (lcB_eq _ _ _ _ _) ?_
                      refine lv_istore (lv' := [(18, .int (lcB (nI a') (nI b') (dr a' c') (dr b' d') i)), (17, .int ((nI b') + (nI i * dr b' d'))), (16, .int ((nI a') + (nI i * dr a' c'))), (0, .ref (q 0)), (1, .int (nI g')), (2, .int (nI a')), (3, .int (nI b')), (6, .int bk), (8, .int (nI c' - nI a')), (9, .int (nI d' - nI b')), (13, .int (nI (max (dist a' c') (dist b' d')))), (14, .int (sh g')), (15, .int (nI i))]) hx hb dX1_stroke_255 hl (by decide) rfl (fun ls hl => ?_)
                      refine lv_aload_n hx hb dX1_stroke_257 rfl (lv_at hl 3 rfl) ?_
                      refine va_get (D := D) (ci := 1) (v := .ref (q 1)) (C := RX1) (T := TX1) (N := 15) hx hb hts hin hown hK hP 0 rfl rfl 1 (by decide) (hts (.fieldLink RX1 7 "SignRailModel" "shapes" "[I") (by decide +kernel)) (fun _ h9 => h9) rfl dX1_stroke_258 ?_
                      refine lv_iload_n hx hb dX1_stroke_261 rfl (lv_at hl 4 rfl) ?_
                      refine W.joinI (pc2 := 290) (st2 := [.int (nI g'), .ref (q 1)]) (J := fun v => v = stk bk (sh1 g') (lcB (nI a') (nI b') (dr a' c') (dr b' d') i)) (fun j_290 => ?_) (fun v_290 hv_290 => ?_)
                      · refine lv_iload hx hb dX1_stroke_262 (lv_at hl 7 rfl) ?_
                        refine lv_if_eq (tgt := 279) hx hb dX1_stroke_264 (by decide) (fun c_264 => ?_) (fun c_264 => ?_)
                        · refine lv_aload_n hx hb dX1_stroke_279 rfl (lv_at hl 3 rfl) ?_
                          refine va_get (D := D) (ci := 1) (v := .ref (q 1)) (C := RX1) (T := TX1) (N := 15) hx hb hts hin hown hK hP 0 rfl rfl 1 (by decide) (hts (.fieldLink RX1 7 "SignRailModel" "shapes" "[I") (by decide +kernel)) (fun _ h9 => h9) rfl dX1_stroke_280 ?_
                          refine lv_iload_n hx hb dX1_stroke_283 rfl (lv_at hl 4 rfl) ?_
                          refine n_iald hx hb hK hP 1 0 rfl rfl (k := g') (by omega) (Nat.le_of_ble_eq_true rfl) dX1_stroke_284 ?_
                          refine lv_iload hx hb dX1_stroke_285 (lv_at hl 0 rfl) ?_
                          refine lv_iconst (v := (-1)) hx hb dX1_stroke_287 (by decide) ?_
                          refine lv_ixor hx hb dX1_stroke_288 ?_
                          refine lv_iand hx hb dX1_stroke_289 ?_
                          exact j_290 _ ((if_pos c_264).symm)
                        · refine lv_aload_n hx hb dX1_stroke_267 rfl (lv_at hl 3 rfl) ?_
                          refine va_get (D := D) (ci := 1) (v := .ref (q 1)) (C := RX1) (T := TX1) (N := 15) hx hb hts hin hown hK hP 0 rfl rfl 1 (by decide) (hts (.fieldLink RX1 7 "SignRailModel" "shapes" "[I") (by decide +kernel)) (fun _ h9 => h9) rfl dX1_stroke_268 ?_
                          refine lv_iload_n hx hb dX1_stroke_271 rfl (lv_at hl 4 rfl) ?_
                          refine n_iald hx hb hK hP 1 0 rfl rfl (k := g') (by omega) (Nat.le_of_ble_eq_true rfl) dX1_stroke_272 ?_
                          refine lv_iload hx hb dX1_stroke_273 (lv_at hl 0 rfl) ?_
                          refine lv_ior hx hb dX1_stroke_275 ?_
                          refine lv_goto (tgt := 290) hx hb dX1_stroke_276 (by decide) ?_
                          exact j_290 _ ((if_neg c_264).symm)
                      · subst hv_290
                        refine n_iast hx hb hK hP hD hS 1 0 rfl rfl (k := g') (by omega) (Nat.le_of_ble_eq_true rfl) dX1_stroke_290 (fun H locs hP hD hS => ?_)
                        have hP : va_P D vwCl (wm cI cZ q (nI 0) (upd sh1 g' (stk bk (sh1 g') (lcB (nI a') (nI b') (dr a' c') (dr b' d') i))) sp ld nm nk tx mn ds ct co st at0 ha tk) H := hP
                        have hD : va_D _ (wm cI cZ q (nI 0) (upd sh1 g' (stk bk (sh1 g') (lcB (nI a') (nI b') (dr a' c') (dr b' d') i))) sp ld nm nk tx mn ds ct co st at0 ha tk) := hD
                        refine lv_iinc (v := nI (i + 1)) (lv' := [(15, .int (nI (i + 1))), (18, .int (lcB (nI a') (nI b') (dr a' c') (dr b' d') i)), (17, .int ((nI b') + (nI i * dr b' d'))), (16, .int ((nI a') + (nI i * dr a' c'))), (0, .ref (q 0)), (1, .int (nI g')), (2, .int (nI a')), (3, .int (nI b')), (6, .int bk), (8, .int (nI c' - nI a')), (9, .int (nI d' - nI b')), (13, .int (nI (max (dist a' c') (dist b' d')))), (14, .int (sh g'))]) hx hb dX1_stroke_291 hl (k := 12) rfl (nI_inc _) (by decide) rfl (fun ls hl => ?_)
                        refine lv_goto (tgt := 187) hx hb dX1_stroke_294 (by decide) ?_
                        exact ih_187 _ _ _ (by unfold lnN; omega) ⟨upd sh1 g' (stk bk (sh1 g') (lcB (nI a') (nI b') (dr a' c') (dr b' d') i)), by rw [hf0_187, fa_upd_twice, pk_us, stk_or]; rfl, hP, hD, hS, lv_sub hl [4, 5, 6, 7, 8, 9, 10, 11, 12, 0] rfl⟩
    · refine lv_aload_n hx hb dX1_stroke_52 rfl (lv_at hl 1 rfl) ?_
      refine lv_iconst (v := nI 1) hx hb dX1_stroke_53 (by decide) ?_
      refine k_callVW (wr := []) (As := [.int (nI 1)]) (rest := []) ⟨hx, hb, hml, hown, hts⟩ (c_X1_fails l D cI cZ q th sh sp ld nm nk tx mn ds ct co st at0 ha tk (nI 1) (k_D_tt hD)) (cwV 1 hts gX1_stroke_X1_fails rfl rfl rfl (by decide +kernel) ⟨Nat.le_of_ble_eq_true rfl, Nat.le_of_ble_eq_true rfl⟩) k_B_bl (k_B_of hP hK) (va_recv hK hP (ci := 1) (q0 := 0) rfl rfl) rfl hl.1 rfl (Nat.le_of_ble_eq_true rfl) dX1_stroke_54 ⟨Nat.le_of_ble_eq_true rfl, Nat.le_of_ble_eq_true rfl⟩ hP hD hS [] [0, 1, 2, 3, 4, 5, 6, 7, 8, 9, 10] rfl rfl (fun _ => rfl) (fun u_54 H locs hu_54 hP hD hS hsz hkp => ?_)
      have hP : va_P D vwCl (wm cI cZ q (nI 1) sh sp ld nm nk tx mn ds ct co st at0 ha tk) H := hP
      have hD : va_D _ (wm cI cZ q (nI 1) sh sp ld nm nk tx mn ds ct co st at0 ha tk) := hD
      exact k_wiret (nI 1, none)  hx hb hr hlocks dX1_stroke_57 (k_no (cd2_1 c_49) (by decide)) rfl hP hS (Nat.le_of_ble_eq_true rfl) (Nat.le_of_ble_eq_true rfl)
