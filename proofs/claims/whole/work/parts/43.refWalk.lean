abbrev badR (sh sp ct : Nat → Int32) (T K : Nat → Nat) : Nat → Bool := fun w => anyB (oldR sh ct w (T w) (K w)) (K w) && decide (plF (pwR (wdR sh) sp (T w) (K w) (K w)) = -1)
def cnB (p : Nat → Bool) : Nat → Int32
  | 0 => nI 0
  | i + 1 => cnB p i + bI (p i)
abbrev pltR (sh sp : Nat → Int32) (T K : Nat → Nat) (w : Nat) : Int32 := plF (pwR (wdR sh) sp (T w) (K w) (K w))
def rmG (sh : Nat → Int32) (pw : Nat → Int32) (T K : Nat → Nat) (ct0 : Nat → Int32) (co0 : Int64) : Nat → (Nat → Int32) × Int64
  | 0 => (ct0, co0)
  | i + 1 => if anyB (oldR sh (rmG sh pw T K ct0 co0 i).1 i (T i) (K i)) (K i) = true then (engR sh (rmG sh pw T K ct0 co0 i).1 i (T i) (K i) (K i), (rmG sh pw T K ct0 co0 i).2 + (pw i).toInt64) else rmG sh pw T K ct0 co0 i
theorem rmG_t {sh pw : Nat → Int32} {T K : Nat → Nat} {ct0 : Nat → Int32} {co0 : Int64} {i : Nat} {c : Nat → Int32} {o : Int64} (h : rmG sh pw T K ct0 co0 i = (c, o)) (h2 : anyB (oldR sh c i (T i) (K i)) (K i) = true) : rmG sh pw T K ct0 co0 (i + 1) = (engR sh c i (T i) (K i) (K i), o + (pw i).toInt64) := by
  rw [rmG, h]
  exact if_pos h2
theorem rmG_f {sh pw : Nat → Int32} {T K : Nat → Nat} {ct0 : Nat → Int32} {co0 : Int64} {i : Nat} {c : Nat → Int32} {o : Int64} (h : rmG sh pw T K ct0 co0 i = (c, o)) (h2 : anyB (oldR sh c i (T i) (K i)) (K i) = false) : rmG sh pw T K ct0 co0 (i + 1) = (c, o) := by
  rw [rmG, h]
  exact if_neg (by rw [h2]; decide)
theorem bI_sp (b : Bool) : (bI b = nI 0 ∧ b = false) ∨ (bI b = nI 1 ∧ b = true) := by cases b <;> simp [bI] <;> rfl
theorem pl_0a {told : Nat → Bool} {Ld : Nat → Nat} {arr : Nat → Bool} {f p : Nat} {tk : Nat → Bool} (h : arr p = true) : pl told Ld arr f p tk = p := by
  cases f with
  | zero => rfl
  | succ f => exact pl_a h
theorem pl_0l {told : Nat → Bool} {Ld : Nat → Nat} {arr : Nat → Bool} {f p : Nat} {tk : Nat → Bool} (h4 : nx told Ld tk p = 4) : pl told Ld arr f p tk = p := by
  cases f with
  | zero => rfl
  | succ f => exact pl_l h4
theorem sa_1 {told : Nat → Bool} {Ld : Nat → Nat} {arr : Nat → Bool} {n p : Nat} {tk : Nat → Bool} (h : arr p = false) : sa told Ld arr 1 n p tk = -1 := by
  show (if arr p then _ else if _ then _ else _) = _
  rw [if_neg (by rw [h]; decide)]
  split <;> rfl
theorem tk_upd {tk : Nat → Int32} {tB : Nat → Bool} {w : Nat} (h : ∀ v, v < 32 → tk v = bI (tB v)) : ∀ v, v < 32 → upd tk w (nI 1) v = bI (tkA tB w v) := by
  intro v hv
  unfold tkA
  by_cases e : v = w
  · subst e
    rw [pk_us, decide_eq_true rfl, Bool.or_true]; rfl
  · rw [pk_un e, h v hv, decide_eq_false e, Bool.or_false]
theorem z_upd {tk : Nat → Int32} {i : Nat} (h : ∀ v, v < i → tk v = nI 0) : ∀ v, v < i + 1 → upd tk i (nI 0) v = nI 0 := by
  intro v hv
  by_cases e : v = i
  · subst e
    exact pk_us
  · rw [pk_un e]
    exact h v (by omega)
set_option maxHeartbeats 4000000 in
set_option maxRecDepth 100000 in
theorem c_X1_remake (l : Launch) (D : va_G) (cI cZ : ClassId) (q : Nat → Nat) (th : Int32) (sh sp ld nm nk tx mn ds ct : Nat → Int32) (co : Int64) (st at0 ha : Int32) (tk : Nat → Int32) (T K : Nat → Nat) (hG : ∀ w, w < 32 → T w < 32768 ∧ K w ≤ 5 ∧ tx w = nI (T w) ∧ mn w = nI (K w)) (hDt : va_D (fun _ => True) (wm cI cZ q th sh sp ld nm nk tx mn ds ct co st at0 ha tk)) : Met l yX1_remake wsX1_remake ({ frames := 5, cells := 0, slots := 0, locals := 113 } : Room) (k_P [.ref (q 0)] (k_B D (wm cI cZ q th sh sp ld nm nk tx mn ds ct co st at0 ha tk) [(cI, .int), (cZ, .boolean)])) (k_WQ D (wm cI cZ q th sh sp ld nm nk tx mn ds ct co st at0 ha tk) (fun u : Int32 × Option ((Nat → Int32) × Int64 × Int32) => u.1 = nI (cd1 (!anyB (badR sh sp ct T K) 32)) ∧ u.2.elim (cd1 (!anyB (badR sh sp ct T K) 32) ≠ 0) (fun v => cd1 (!anyB (badR sh sp ct T K) 32) = 0 ∧ rmG sh (pltR sh sp T K) T K ct co 32 = (v.1, v.2.1) ∧ v.2.2 = cnB (fun w => anyB (oldR sh ct w (T w) (K w)) (K w)) 32)) (fun u => wm cI cZ q u.1 sh sp ld nm nk tx mn ds (u.2.elim ct (fun v => v.1)) (u.2.elim co (fun v => v.2.1)) st at0 ha tk) (fun u => some (.int (u.2.elim (nI 0) (fun v => v.2.2))))) 0 0 (k_A (wm cI cZ q th sh sp ld nm nk tx mn ds ct co st at0 ha tk)) := by
  refine k_head (cc := cX1_remake) (maxL := 4) (ret := (some .int)) [(0, .ref (q 0))] (by decide) rfl (Nat.le_of_ble_eq_true rfl) rfl ?_
  intro p e s m below meth c ls hx hb hr hml hown hts hlocks hname hB hl
  have hown : s.vm.findClass RX1 = some m.cls := hown
  obtain ⟨hP, hK⟩ := hB
  have hin : ∀ w ∈ wsX10, w ∈ wsX1_remake := fun w h => List.mem_cons_of_mem _ (List.mem_append_right _ h)
  have hD := k_A_D hDt
  have hS : va_S (k_A (wm cI cZ q th sh sp ld nm nk tx mn ds ct co st at0 ha tk)) s.heap s.heap [] := va_S.rf
  refine lv_aload_n hx hb dX1_remake_0 rfl (lv_at hl 0 rfl) ?_
  refine lv_iconst (v := nI 0) hx hb dX1_remake_1 (by decide) ?_
  refine va_put (D := D) (ci := 1) (v := .int (nI 0)) (ty := .int) (C := RX1) (T := TX1) (N := 15) hx hb hts hin tyX1 tyX1_ok nmX1 hown hK hP hD hS 0 rfl rfl 0 (by decide) (hts (.fieldLink RX1 41 "SignRailModel" "thrown" "I") (by decide +kernel)) (fun _ h9 => h9) rfl (by decide +kernel) (rfl) (rfl) (Nat.le_of_ble_eq_true rfl) dX1_remake_2 (fun H locs hP hD hS => ?_)
  have hP : va_P D vwCl (wm cI cZ q (nI 0) sh sp ld nm nk tx mn ds ct co st at0 ha tk) H := hP
  have hD : va_D _ (wm cI cZ q (nI 0) sh sp ld nm nk tx mn ds ct co st at0 ha tk) := hD
  refine lv_iconst (v := nI 0) hx hb dX1_remake_5 (by decide) ?_
  refine lv_istore_n (lv' := [(1, .int (nI 0)), (0, .ref (q 0))]) hx hb dX1_remake_6 rfl hl (by decide) rfl (fun ls hl => ?_)
  refine lv_iconst (v := nI 0) hx hb dX1_remake_7 (by decide) ?_
  refine lv_istore_n (lv' := [(2, .int (nI 0)), (1, .int (nI 0)), (0, .ref (q 0))]) hx hb dX1_remake_8 rfl hl (by decide) rfl (fun ls hl => ?_)
  refine W.loopH (fun i H locs ls => ∃ (n1 : Int32) (th1 : Int32), (th1 = bI (anyB (badR sh sp ct T K) i)) ∧ (n1 = cnB (fun w => anyB (oldR sh ct w (T w) (K w)) (K w)) i) ∧ va_P D vwCl (wm cI cZ q th1 sh sp ld nm nk tx mn ds ct co st at0 ha tk) H ∧ va_D (k_A (wm cI cZ q th sh sp ld nm nk tx mn ds ct co st at0 ha tk)) (wm cI cZ q th1 sh sp ld nm nk tx mn ds ct co st at0 ha tk) ∧ va_S (k_A (wm cI cZ q th sh sp ld nm nk tx mn ds ct co st at0 ha tk)) s.heap H locs ∧ lv_has ls 4 [(0, .ref (q 0)), (1, .int n1), (2, .int (nI i))]) (32) (0) (by omega) ⟨nI 0, nI 0, rfl, rfl, hP, hD, hS, lv_sub hl [2, 1, 0] rfl⟩ ?_
  intro i H locs ls hi_9 hI_9 ih_9
  obtain ⟨n1, th1, hf0_9, hf1_9, hP, hD, hS, hl⟩ := hI_9
  refine lv_iload_n hx hb dX1_remake_9 rfl (lv_at hl 2 rfl) ?_
  refine lv_bipush (v := nI 32) hx hb dX1_remake_10 (by decide) ?_
  refine n_icmp_ge (tgt := 75) hx hb dX1_remake_12 (by decide) (by omega) (by omega) (fun c_12 => ?_) (fun c_12 => ?_)
  · have h32 : i = 32 := by omega
    subst h32
    subst hf0_9
    rcases bI_sp (anyB (badR sh sp ct T K) 32) with ⟨hbe, hbd⟩ | ⟨hbe, hbd⟩
    · rw [hbe] at hP hD
      refine lv_iconst (v := nI 0) hx hb dX1_remake_75 (by decide) ?_
      refine lv_istore_n (lv' := [(2, .int (nI 0)), (0, .ref (q 0)), (1, .int n1)]) hx hb dX1_remake_76 rfl hl (by decide) rfl (fun ls hl => ?_)
      refine W.loopH (fun i H locs ls => ∃ (ct1 : Nat → Int32) (co1 : Int64), (rmG sh (pltR sh sp T K) T K ct co i = (ct1, co1)) ∧ va_P D vwCl (wm cI cZ q (nI 0) sh sp ld nm nk tx mn ds ct1 co1 st at0 ha tk) H ∧ va_D (k_A (wm cI cZ q th sh sp ld nm nk tx mn ds ct co st at0 ha tk)) (wm cI cZ q (nI 0) sh sp ld nm nk tx mn ds ct1 co1 st at0 ha tk) ∧ va_S (k_A (wm cI cZ q th sh sp ld nm nk tx mn ds ct co st at0 ha tk)) s.heap H locs ∧ lv_has ls 4 [(0, .ref (q 0)), (1, .int n1), (2, .int (nI i))]) (32) (0) (by omega) ⟨ct, co, rfl, hP, hD, hS, lv_sub hl [1, 2, 0] rfl⟩ ?_
      intro i H locs ls hi_77 hI_77 ih_77
      obtain ⟨ct1, co1, hf0_77, hP, hD, hS, hl⟩ := hI_77
      refine lv_iload_n hx hb dX1_remake_77 rfl (lv_at hl 2 rfl) ?_
      refine lv_bipush (v := nI 32) hx hb dX1_remake_78 (by decide) ?_
      refine n_icmp_ge (tgt := 109) hx hb dX1_remake_80 (by decide) (by omega) (by omega) (fun c_80 => ?_) (fun c_80 => ?_)
      · refine lv_aload_n hx hb dX1_remake_109 rfl (lv_at hl 0 rfl) ?_
        refine va_get (D := D) (ci := 1) (v := .int (nI 0)) (C := RX1) (T := TX1) (N := 15) hx hb hts hin hown hK hP 0 rfl rfl 0 (by decide) (hts (.fieldLink RX1 41 "SignRailModel" "thrown" "I") (by decide +kernel)) (fun _ h9 => h9) rfl dX1_remake_110 ?_
        refine n_if_le (tgt := 120) hx hb dX1_remake_113 (by decide) (by decide) (fun _ => ?_) (fun c_113 => absurd c_113 (by decide))
        refine lv_iload_n hx hb dX1_remake_120 rfl (lv_at hl 1 rfl) ?_
        exact k_wiret (nI 0, some (ct1, co1, n1))  hx hb hr hlocks dX1_remake_121 (⟨(congrArg nI (cd1_0 (by rw [hbd]; rfl))).symm, (cd1_0 (by rw [hbd]; rfl)), by rw [← hf0_77, show i = 32 from by omega], hf1_9⟩) rfl hP hS (Nat.le_of_ble_eq_true rfl) (Nat.le_of_ble_eq_true rfl)
      · refine lv_aload_n hx hb dX1_remake_83 rfl (lv_at hl 0 rfl) ?_
        refine va_get (D := D) (ci := 1) (v := .int (nI 0)) (C := RX1) (T := TX1) (N := 15) hx hb hts hin hown hK hP 0 rfl rfl 0 (by decide) (hts (.fieldLink RX1 41 "SignRailModel" "thrown" "I") (by decide +kernel)) (fun _ h9 => h9) rfl dX1_remake_84 ?_
        refine n_if_ne (tgt := 109) hx hb dX1_remake_87 (by decide) (by decide) (fun c_87 => absurd c_87 (by decide)) (fun _ => ?_)
        refine lv_aload_n hx hb dX1_remake_90 rfl (lv_at hl 0 rfl) ?_
        refine lv_iload_n hx hb dX1_remake_91 rfl (lv_at hl 2 rfl) ?_
        refine k_callVi (As := [.int (nI i)]) (rest := []) ⟨hx, hb, hml, hown, hts⟩ (c_X1_old l D cI cZ q (nI 0) sh sp ld nm nk tx mn ds ct1 co1 st at0 ha tk i (T i) (K i) (by omega) (hG _ (by omega)).1 (hG _ (by omega)).2.1 (hG _ (by omega)).2.2.1 (hG _ (by omega)).2.2.2) (cwV 1 hts gX1_remake_X1_old rfl rfl rfl (by decide +kernel) ⟨Nat.le_of_ble_eq_true rfl, Nat.le_of_ble_eq_true rfl⟩) k_B_bl (k_B_of hP hK) (va_recv hK hP (ci := 1) (q0 := 0) rfl rfl) rfl hl.1 rfl (Nat.le_of_ble_eq_true rfl) dX1_remake_92 ⟨Nat.zero_le _, Nat.zero_le _⟩ ?_
        refine b_if_eq (tgt := 103) hx hb dX1_remake_95 (by decide) (fun c_95 => ?_) (fun c_95 => ?_)
        · refine lv_iinc (v := nI (i + 1)) (lv' := [(2, .int (nI (i + 1))), (0, .ref (q 0)), (1, .int n1)]) hx hb dX1_remake_103 hl (k := 2) rfl (nI_inc _) (by decide) rfl (fun ls hl => ?_)
          refine lv_goto (tgt := 77) hx hb dX1_remake_106 (by decide) ?_
          exact ih_77 _ _ _ (by omega) ⟨ct1, co1, rmG_f hf0_77 c_95, hP, hD, hS, lv_sub hl [1, 2, 0] rfl⟩
        · refine lv_aload_n hx hb dX1_remake_98 rfl (lv_at hl 0 rfl) ?_
          refine lv_iload_n hx hb dX1_remake_99 rfl (lv_at hl 2 rfl) ?_
          refine k_callVW (wr := []) (As := [.int (nI i)]) (rest := []) ⟨hx, hb, hml, hown, hts⟩ (c_X1_cuts l D cI cZ q (nI 0) sh sp ld nm nk tx mn ds ct1 co1 st at0 ha tk i (T i) (K i) (by omega) (hG _ (by omega)).1 (hG _ (by omega)).2.1 (hG _ (by omega)).2.2.1 (hG _ (by omega)).2.2.2 (k_D_tt hD)) (cwV 1 hts gX1_remake_X1_cuts rfl rfl rfl (by decide +kernel) ⟨Nat.le_of_ble_eq_true rfl, Nat.le_of_ble_eq_true rfl⟩) k_B_bl (k_B_of hP hK) (va_recv hK hP (ci := 1) (q0 := 0) rfl rfl) rfl hl.1 rfl (Nat.le_of_ble_eq_true rfl) dX1_remake_100 ⟨Nat.le_of_ble_eq_true rfl, Nat.le_of_ble_eq_true rfl⟩ hP hD hS [] [0, 1, 2, 3, 4, 5, 6, 7, 8, 9, 10] rfl rfl (fun _ => rfl) (fun u_100 H locs hu_100 hP hD hS hsz hkp => ?_)
          have hP : va_P D vwCl (wm cI cZ q (nI 0) sh sp ld nm nk tx mn ds (engR sh ct1 i (T i) (K i) (K i)) (co1 + (pltR sh sp T K i).toInt64) st at0 ha tk) H := hP
          have hD : va_D _ (wm cI cZ q (nI 0) sh sp ld nm nk tx mn ds (engR sh ct1 i (T i) (K i) (K i)) (co1 + (pltR sh sp T K i).toInt64) st at0 ha tk) := hD
          refine lv_iinc (v := nI (i + 1)) (lv' := [(2, .int (nI (i + 1))), (0, .ref (q 0)), (1, .int n1)]) hx hb dX1_remake_103 hl (k := 2) rfl (nI_inc _) (by decide) rfl (fun ls hl => ?_)
          refine lv_goto (tgt := 77) hx hb dX1_remake_106 (by decide) ?_
          exact ih_77 _ _ _ (by omega) ⟨engR sh ct1 i (T i) (K i) (K i), co1 + (pltR sh sp T K i).toInt64, rmG_t hf0_77 c_95, hP, hD, hS, lv_sub hl [1, 2, 0] rfl⟩
    · rw [hbe] at hP hD
      refine lv_iconst (v := nI 0) hx hb dX1_remake_75 (by decide) ?_
      refine lv_istore_n (lv' := [(2, .int (nI 0)), (0, .ref (q 0)), (1, .int n1)]) hx hb dX1_remake_76 rfl hl (by decide) rfl (fun ls hl => ?_)
      refine lv_iload_n hx hb dX1_remake_77 rfl (lv_at hl 0 rfl) ?_
      refine lv_bipush (v := nI 32) hx hb dX1_remake_78 (by decide) ?_
      refine n_icmp_ge (tgt := 109) hx hb dX1_remake_80 (by decide) (by omega) (by omega) (fun c_80 => ?_) (fun c_80 => ?_)
      · exact absurd c_80 (by omega)
      · refine lv_aload_n hx hb dX1_remake_83 rfl (lv_at hl 1 rfl) ?_
        refine va_get (D := D) (ci := 1) (v := .int (nI 1)) (C := RX1) (T := TX1) (N := 15) hx hb hts hin hown hK hP 0 rfl rfl 0 (by decide) (hts (.fieldLink RX1 41 "SignRailModel" "thrown" "I") (by decide +kernel)) (fun _ h9 => h9) rfl dX1_remake_84 ?_
        refine n_if_ne (tgt := 109) hx hb dX1_remake_87 (by decide) (by decide) (fun _ => ?_) (fun c_87 => absurd c_87 (by decide))
        refine lv_aload_n hx hb dX1_remake_109 rfl (lv_at hl 1 rfl) ?_
        refine va_get (D := D) (ci := 1) (v := .int (nI 1)) (C := RX1) (T := TX1) (N := 15) hx hb hts hin hown hK hP 0 rfl rfl 0 (by decide) (hts (.fieldLink RX1 41 "SignRailModel" "thrown" "I") (by decide +kernel)) (fun _ h9 => h9) rfl dX1_remake_110 ?_
        refine n_if_le (tgt := 120) hx hb dX1_remake_113 (by decide) (by decide) (fun c_113 => absurd c_113 (by decide)) (fun _ => ?_)
        refine lv_iconst (v := nI 0) hx hb dX1_remake_116 (by decide) ?_
        refine lv_goto (tgt := 121) hx hb dX1_remake_117 (by decide) ?_
        exact k_wiret (nI 1, none)  hx hb hr hlocks dX1_remake_121 (k_no (cd1_1 (by rw [hbd]; rfl)) (by decide)) rfl hP hS (Nat.le_of_ble_eq_true rfl) (Nat.le_of_ble_eq_true rfl)
  · refine lv_aload_n hx hb dX1_remake_15 rfl (lv_at hl 0 rfl) ?_
    refine lv_iload_n hx hb dX1_remake_16 rfl (lv_at hl 2 rfl) ?_
    refine k_callVi (As := [.int (nI i)]) (rest := []) ⟨hx, hb, hml, hown, hts⟩ (c_X1_old l D cI cZ q th1 sh sp ld nm nk tx mn ds ct co st at0 ha tk i (T i) (K i) (by omega) (hG _ (by omega)).1 (hG _ (by omega)).2.1 (hG _ (by omega)).2.2.1 (hG _ (by omega)).2.2.2) (cwV 1 hts gX1_remake_X1_old rfl rfl rfl (by decide +kernel) ⟨Nat.le_of_ble_eq_true rfl, Nat.le_of_ble_eq_true rfl⟩) k_B_bl (k_B_of hP hK) (va_recv hK hP (ci := 1) (q0 := 0) rfl rfl) rfl hl.1 rfl (Nat.le_of_ble_eq_true rfl) dX1_remake_17 ⟨Nat.zero_le _, Nat.zero_le _⟩ ?_
    refine lv_istore_n (lv' := [(3, .int (bI (anyB (oldR sh ct i (T i) (K i)) (K i)))), (0, .ref (q 0)), (1, .int n1), (2, .int (nI i))]) hx hb dX1_remake_20 rfl hl (by decide) rfl (fun ls hl => ?_)
    refine lv_iload_n hx hb dX1_remake_21 rfl (lv_at hl 2 rfl) ?_
    refine lv_iload_n hx hb dX1_remake_22 rfl (lv_at hl 0 rfl) ?_
    refine b_if_eq (tgt := 30) hx hb dX1_remake_23 (by decide) (fun c_23 => ?_) (fun c_23 => ?_)
    · refine lv_iconst (v := nI 0) hx hb dX1_remake_30 (by decide) ?_
      refine lv_iadd hx hb dX1_remake_31 ?_
      refine lv_as (y := n1 + nI 0) (rfl) ?_
      refine lv_istore_n (lv' := [(1, .int (n1 + nI 0)), (3, .int (bI (anyB (oldR sh ct i (T i) (K i)) (K i)))), (0, .ref (q 0)), (2, .int (nI i))]) hx hb dX1_remake_32 rfl hl (by decide) rfl (fun ls hl => ?_)
      refine lv_aload_n hx hb dX1_remake_33 rfl (lv_at hl 2 rfl) ?_
      refine lv_iload_n hx hb dX1_remake_34 rfl (lv_at hl 1 rfl) ?_
      refine b_if_eq (tgt := 62) hx hb dX1_remake_35 (by decide) (fun c_35 => ?_) (fun c_35 => absurd (c_35.symm.trans c_23) (by decide))
      refine lv_aload_n hx hb dX1_remake_62 rfl (lv_at hl 2 rfl) ?_
      refine va_get (D := D) (ci := 1) (v := .int th1) (C := RX1) (T := TX1) (N := 15) hx hb hts hin hown hK hP 0 rfl rfl 0 (by decide) (hts (.fieldLink RX1 41 "SignRailModel" "thrown" "I") (by decide +kernel)) (fun _ h9 => h9) rfl dX1_remake_63 ?_
      refine va_put (D := D) (ci := 1) (v := .int th1) (ty := .int) (C := RX1) (T := TX1) (N := 15) hx hb hts hin tyX1 tyX1_ok nmX1 hown hK hP hD hS 0 rfl rfl 0 (by decide) (hts (.fieldLink RX1 41 "SignRailModel" "thrown" "I") (by decide +kernel)) (fun _ h9 => h9) rfl (by decide +kernel) (rfl) (rfl) (Nat.le_of_ble_eq_true rfl) dX1_remake_66 (fun H locs hP hD hS => ?_)
      have hP : va_P D vwCl (wm cI cZ q th1 sh sp ld nm nk tx mn ds ct co st at0 ha tk) H := hP
      have hD : va_D _ (wm cI cZ q th1 sh sp ld nm nk tx mn ds ct co st at0 ha tk) := hD
      refine lv_iinc (v := nI (i + 1)) (lv' := [(2, .int (nI (i + 1))), (1, .int (n1 + nI 0)), (3, .int (bI (anyB (oldR sh ct i (T i) (K i)) (K i)))), (0, .ref (q 0))]) hx hb dX1_remake_69 hl (k := 3) rfl (nI_inc _) (by decide) rfl (fun ls hl => ?_)
      refine lv_goto (tgt := 9) hx hb dX1_remake_72 (by decide) ?_
      exact ih_9 _ _ _ (by omega) ⟨n1 + nI 0, th1, by rw [anyB, hf0_9]; simp [badR, c_23], by rw [cnB, hf1_9, c_23]; rfl, hP, hD, hS, lv_sub hl [3, 1, 0] rfl⟩
    · refine lv_iconst (v := nI 1) hx hb dX1_remake_26 (by decide) ?_
      refine lv_goto (tgt := 31) hx hb dX1_remake_27 (by decide) ?_
      refine lv_iadd hx hb dX1_remake_31 ?_
      refine lv_as (y := n1 + nI 1) (rfl) ?_
      refine lv_istore_n (lv' := [(1, .int (n1 + nI 1)), (3, .int (bI (anyB (oldR sh ct i (T i) (K i)) (K i)))), (0, .ref (q 0)), (2, .int (nI i))]) hx hb dX1_remake_32 rfl hl (by decide) rfl (fun ls hl => ?_)
      refine lv_aload_n hx hb dX1_remake_33 rfl (lv_at hl 2 rfl) ?_
      refine lv_iload_n hx hb dX1_remake_34 rfl (lv_at hl 1 rfl) ?_
      refine b_if_eq (tgt := 62) hx hb dX1_remake_35 (by decide) (fun c_35 => absurd (c_35.symm.trans c_23) (by decide)) (fun c_35 => ?_)
      refine lv_aload_n hx hb dX1_remake_38 rfl (lv_at hl 2 rfl) ?_
      refine lv_aload_n hx hb dX1_remake_39 rfl (lv_at hl 2 rfl) ?_
      refine va_get (D := D) (ci := 1) (v := .ref (q 6)) (C := RX1) (T := TX1) (N := 15) hx hb hts hin hown hK hP 0 rfl rfl 6 (by decide) (hts (.fieldLink RX1 25 "SignRailModel" "texts" "[I") (by decide +kernel)) (fun _ h9 => h9) rfl dX1_remake_40 ?_
      refine lv_iload_n hx hb dX1_remake_43 rfl (lv_at hl 3 rfl) ?_
      refine n_iald hx hb hK hP 6 0 rfl rfl (k := i) (by omega) (Nat.le_of_ble_eq_true rfl) dX1_remake_44 ?_
      refine lv_as (y := nI (T i)) ((hG _ (by omega)).2.2.1) ?_
      refine lv_aload_n hx hb dX1_remake_45 rfl (lv_at hl 2 rfl) ?_
      refine va_get (D := D) (ci := 1) (v := .ref (q 7)) (C := RX1) (T := TX1) (N := 15) hx hb hts hin hown hK hP 0 rfl rfl 7 (by decide) (hts (.fieldLink RX1 28 "SignRailModel" "many" "[I") (by decide +kernel)) (fun _ h9 => h9) rfl dX1_remake_46 ?_
      refine lv_iload_n hx hb dX1_remake_49 rfl (lv_at hl 3 rfl) ?_
      refine n_iald hx hb hK hP 7 0 rfl rfl (k := i) (by omega) (Nat.le_of_ble_eq_true rfl) dX1_remake_50 ?_
      refine lv_as (y := nI (K i)) ((hG _ (by omega)).2.2.2) ?_
      refine k_callVi (As := [.int (nI (T i)), .int (nI (K i))]) (rest := [.ref (q 0)]) ⟨hx, hb, hml, hown, hts⟩ (c_X1_plate l D cI cZ q th1 sh sp ld nm nk tx mn ds ct co st at0 ha tk (T i) (K i) (hG _ (by omega)).1 (hG _ (by omega)).2.1) (cwV 2 hts gX1_remake_X1_plate rfl rfl rfl (by decide +kernel) ⟨Nat.le_of_ble_eq_true rfl, Nat.le_of_ble_eq_true rfl⟩) k_B_bl (k_B_of hP hK) (va_recv hK hP (ci := 1) (q0 := 0) rfl rfl) rfl hl.1 rfl (Nat.le_of_ble_eq_true rfl) dX1_remake_51 ⟨Nat.zero_le _, Nat.zero_le _⟩ ?_
      refine lv_iconst (v := (-1)) hx hb dX1_remake_54 (by decide) ?_
      refine lv_icmp_ne (tgt := 62) hx hb dX1_remake_55 (by decide) (fun c_55 => ?_) (fun c_55 => ?_)
      · refine lv_aload_n hx hb dX1_remake_62 rfl (lv_at hl 2 rfl) ?_
        refine va_get (D := D) (ci := 1) (v := .int th1) (C := RX1) (T := TX1) (N := 15) hx hb hts hin hown hK hP 0 rfl rfl 0 (by decide) (hts (.fieldLink RX1 41 "SignRailModel" "thrown" "I") (by decide +kernel)) (fun _ h9 => h9) rfl dX1_remake_63 ?_
        refine va_put (D := D) (ci := 1) (v := .int th1) (ty := .int) (C := RX1) (T := TX1) (N := 15) hx hb hts hin tyX1 tyX1_ok nmX1 hown hK hP hD hS 0 rfl rfl 0 (by decide) (hts (.fieldLink RX1 41 "SignRailModel" "thrown" "I") (by decide +kernel)) (fun _ h9 => h9) rfl (by decide +kernel) (rfl) (rfl) (Nat.le_of_ble_eq_true rfl) dX1_remake_66 (fun H locs hP hD hS => ?_)
        have hP : va_P D vwCl (wm cI cZ q th1 sh sp ld nm nk tx mn ds ct co st at0 ha tk) H := hP
        have hD : va_D _ (wm cI cZ q th1 sh sp ld nm nk tx mn ds ct co st at0 ha tk) := hD
        refine lv_iinc (v := nI (i + 1)) (lv' := [(2, .int (nI (i + 1))), (1, .int (n1 + nI 1)), (3, .int (bI (anyB (oldR sh ct i (T i) (K i)) (K i)))), (0, .ref (q 0))]) hx hb dX1_remake_69 hl (k := 3) rfl (nI_inc _) (by decide) rfl (fun ls hl => ?_)
        refine lv_goto (tgt := 9) hx hb dX1_remake_72 (by decide) ?_
        exact ih_9 _ _ _ (by omega) ⟨n1 + nI 1, th1, by rw [anyB, hf0_9]; simp [badR, c_23, c_55], by rw [cnB, hf1_9, c_23]; rfl, hP, hD, hS, lv_sub hl [3, 1, 0] rfl⟩
      · refine lv_iconst (v := nI 1) hx hb dX1_remake_58 (by decide) ?_
        refine lv_goto (tgt := 66) hx hb dX1_remake_59 (by decide) ?_
        refine va_put (D := D) (ci := 1) (v := .int (nI 1)) (ty := .int) (C := RX1) (T := TX1) (N := 15) hx hb hts hin tyX1 tyX1_ok nmX1 hown hK hP hD hS 0 rfl rfl 0 (by decide) (hts (.fieldLink RX1 41 "SignRailModel" "thrown" "I") (by decide +kernel)) (fun _ h9 => h9) rfl (by decide +kernel) (rfl) (rfl) (Nat.le_of_ble_eq_true rfl) dX1_remake_66 (fun H locs hP hD hS => ?_)
        have hP : va_P D vwCl (wm cI cZ q (nI 1) sh sp ld nm nk tx mn ds ct co st at0 ha tk) H := hP
        have hD : va_D _ (wm cI cZ q (nI 1) sh sp ld nm nk tx mn ds ct co st at0 ha tk) := hD
        refine lv_iinc (v := nI (i + 1)) (lv' := [(2, .int (nI (i + 1))), (1, .int (n1 + nI 1)), (3, .int (bI (anyB (oldR sh ct i (T i) (K i)) (K i)))), (0, .ref (q 0))]) hx hb dX1_remake_69 hl (k := 3) rfl (nI_inc _) (by decide) rfl (fun ls hl => ?_)
        refine lv_goto (tgt := 9) hx hb dX1_remake_72 (by decide) ?_
        exact ih_9 _ _ _ (by omega) ⟨n1 + nI 1, nI 1, by rw [anyB]; simp [badR, c_23, c_55]; rfl, by rw [cnB, hf1_9, c_23]; rfl, hP, hD, hS, lv_sub hl [3, 1, 0] rfl⟩
set_option maxHeartbeats 4000000 in
set_option maxRecDepth 100000 in
theorem c_X1_follows (l : Launch) (D : va_G) (cI cZ : ClassId) (q : Nat → Nat) (th : Int32) (sh sp ld nm nk tx mn ds ct : Nat → Int32) (co : Int64) (st at0 ha : Int32) (tk : Nat → Int32) (p1 t k most : Nat) (hp : p1 < 8) (ht : t < 32768) (hk : k ≤ 5) (hm : most ≤ 30) (K Ld : Nat → Nat) (hGk : ∀ w, w < 32 → K w ≤ 5 ∧ mn w = nI (K w)) (hLd : ∀ w, w < 32 → Ld w ≤ 8 ∧ ld w = ix (Ld w)) (NT NK : Nat → Nat) (hN : ∀ p, p < 8 → NT p < 32768 ∧ NK p ≤ 5 ∧ nm p = nI (NT p) ∧ nk p = nI (NK p)) (hDt : va_D (fun _ => True) (wm cI cZ q th sh sp ld nm nk tx mn ds ct co st at0 ha tk)) : Met l yX1_follows wsX1_follows ({ frames := 4, cells := 0, slots := 0, locals := 101 } : Room) (k_P [.ref (q 0), .int (nI p1), .int (nI t), .int (nI k), .int (nI most)] (k_B D (wm cI cZ q th sh sp ld nm nk tx mn ds ct co st at0 ha tk) [(cI, .int), (cZ, .boolean)])) (k_WQ D (wm cI cZ q th sh sp ld nm nk tx mn ds ct co st at0 ha tk) (fun u : (Nat → Int32) × Int32 × Int32 × Int32 => u.2.2.1 = nI (pl (toldR sh ct ds K k t) Ld (arrC NK NT k t) most p1 tk0) ∧ ∃ b : Bool, u.2.2.2 = bI b ∧ (if b = true then u.2.1 else -1) = sa (toldR sh ct ds K k t) Ld (arrC NK NT k t) (most + 1) 0 p1 tk0) (fun u => wm cI cZ q th sh sp ld nm nk tx mn ds ct co u.2.1 u.2.2.1 u.2.2.2 u.1) (fun u => none)) 0 0 (k_A (wm cI cZ q th sh sp ld nm nk tx mn ds ct co st at0 ha tk)) := by
  refine k_head (cc := cX1_follows) (maxL := 7) (ret := none) [(0, .ref (q 0)), (1, .int (nI p1)), (2, .int (nI t)), (3, .int (nI k)), (4, .int (nI most))] (by decide) rfl (Nat.le_of_ble_eq_true rfl) rfl ?_
  intro p e s m below meth c ls hx hb hr hml hown hts hlocks hname hB hl
  have hown : s.vm.findClass RX1 = some m.cls := hown
  obtain ⟨hP, hK⟩ := hB
  have hin : ∀ w ∈ wsX10, w ∈ wsX1_follows := fun w h => List.mem_cons_of_mem _ (List.mem_append_right _ h)
  have hD := k_A_D hDt
  have hS : va_S (k_A (wm cI cZ q th sh sp ld nm nk tx mn ds ct co st at0 ha tk)) s.heap s.heap [] := va_S.rf
  refine lv_iconst (v := nI 0) hx hb dX1_follows_0 (by decide) ?_
  refine lv_istore (lv' := [(5, .int (nI 0)), (0, .ref (q 0)), (1, .int (nI p1)), (2, .int (nI t)), (3, .int (nI k)), (4, .int (nI most))]) hx hb dX1_follows_1 hl (by decide) rfl (fun ls hl => ?_)
  refine W.loopH (fun i H locs ls => ∃ (tk1 : Nat → Int32), (∀ v, v < i → tk1 v = nI 0) ∧ va_P D vwCl (wm cI cZ q th sh sp ld nm nk tx mn ds ct co st at0 ha tk1) H ∧ va_D (k_A (wm cI cZ q th sh sp ld nm nk tx mn ds ct co st at0 ha tk)) (wm cI cZ q th sh sp ld nm nk tx mn ds ct co st at0 ha tk1) ∧ va_S (k_A (wm cI cZ q th sh sp ld nm nk tx mn ds ct co st at0 ha tk)) s.heap H locs ∧ lv_has ls 7 [(0, .ref (q 0)), (1, .int (nI p1)), (2, .int (nI t)), (3, .int (nI k)), (4, .int (nI most)), (5, .int (nI i))]) (32) (0) (by omega) ⟨tk, fun v hv => absurd hv (Nat.not_lt_zero _), hP, hD, hS, lv_sub hl [1, 2, 3, 4, 5, 0] rfl⟩ ?_
  intro i H locs ls hi_3 hI_3 ih_3
  obtain ⟨tk1, hf0_3, hP, hD, hS, hl⟩ := hI_3
  refine lv_iload hx hb dX1_follows_3 (lv_at hl 5 rfl) ?_
  refine lv_bipush (v := nI 32) hx hb dX1_follows_5 (by decide) ?_
  refine n_icmp_ge (tgt := 24) hx hb dX1_follows_7 (by decide) (by omega) (by omega) (fun c_7 => ?_) (fun c_7 => ?_)
  · refine lv_aload_n hx hb dX1_follows_24 rfl (lv_at hl 0 rfl) ?_
    refine lv_iconst (v := nI 0) hx hb dX1_follows_25 (by decide) ?_
    refine va_put (D := D) (ci := 1) (v := .int (nI 0)) (ty := .int) (C := RX1) (T := TX1) (N := 15) hx hb hts hin tyX1 tyX1_ok nmX1 hown hK hP hD hS 0 rfl rfl 11 (by decide) (hts (.fieldLink RX1 103 "SignRailModel" "steps" "I") (by decide +kernel)) (fun _ h9 => h9) rfl (by decide +kernel) (rfl) (rfl) (Nat.le_of_ble_eq_true rfl) dX1_follows_26 (fun H locs hP hD hS => ?_)
    have hP : va_P D vwCl (wm cI cZ q th sh sp ld nm nk tx mn ds ct co (nI 0) at0 ha tk1) H := hP
    have hD : va_D _ (wm cI cZ q th sh sp ld nm nk tx mn ds ct co (nI 0) at0 ha tk1) := hD
    refine lv_aload_n hx hb dX1_follows_29 rfl (lv_at hl 0 rfl) ?_
    refine lv_iload_n hx hb dX1_follows_30 rfl (lv_at hl 1 rfl) ?_
    refine va_put (D := D) (ci := 1) (v := .int (nI p1)) (ty := .int) (C := RX1) (T := TX1) (N := 15) hx hb hts hin tyX1 tyX1_ok nmX1 hown hK hP hD hS 0 rfl rfl 12 (by decide) (hts (.fieldLink RX1 106 "SignRailModel" "at" "I") (by decide +kernel)) (fun _ h9 => h9) rfl (by decide +kernel) (rfl) (rfl) (Nat.le_of_ble_eq_true rfl) dX1_follows_31 (fun H locs hP hD hS => ?_)
    have hP : va_P D vwCl (wm cI cZ q th sh sp ld nm nk tx mn ds ct co (nI 0) (nI p1) ha tk1) H := hP
    have hD : va_D _ (wm cI cZ q th sh sp ld nm nk tx mn ds ct co (nI 0) (nI p1) ha tk1) := hD
    refine lv_aload_n hx hb dX1_follows_34 rfl (lv_at hl 0 rfl) ?_
    have hn1 := hN p1 hp
    refine W.joinI (pc2 := 66) (st2 := [.ref (q 0)]) (J := fun v => v = bI ((arrC NK NT k t) p1)) (fun j_66 => ?_) (fun v_66 hv_66 => ?_)
    · refine lv_aload_n hx hb dX1_follows_35 rfl (lv_at hl 0 rfl) ?_
      refine va_get (D := D) (ci := 1) (v := .ref (q 5)) (C := RX1) (T := TX1) (N := 15) hx hb hts hin hown hK hP 0 rfl rfl 5 (by decide) (hts (.fieldLink RX1 22 "SignRailModel" "nameMany" "[I") (by decide +kernel)) (fun _ h9 => h9) rfl dX1_follows_36 ?_
      refine lv_aload_n hx hb dX1_follows_39 rfl (lv_at hl 0 rfl) ?_
      refine va_get (D := D) (ci := 1) (v := .int (nI p1)) (C := RX1) (T := TX1) (N := 15) hx hb hts hin hown hK hP 0 rfl rfl 12 (by decide) (hts (.fieldLink RX1 106 "SignRailModel" "at" "I") (by decide +kernel)) (fun _ h9 => h9) rfl dX1_follows_40 ?_
      refine n_iald hx hb hK hP 5 0 rfl rfl (k := p1) (by omega) (Nat.le_of_ble_eq_true rfl) dX1_follows_43 ?_
      refine lv_as (y := nI (NK p1)) (hn1.2.2.2) ?_
      refine lv_iload_n hx hb dX1_follows_44 rfl (lv_at hl 3 rfl) ?_
      refine n_icmp_ne (tgt := 65) hx hb dX1_follows_45 (by decide) (by omega) (by omega) (fun c_45 => ?_) (fun c_45 => ?_)
      · refine lv_iconst (v := nI 0) hx hb dX1_follows_65 (by decide) ?_
        exact j_66 _ (by first | rw [show (arrC NK NT k t) p1 = false from decide_eq_false (fun q => c_45 q.1)] <;> rfl | rw [show (arrC NK NT k t) p1 = false from decide_eq_false (fun q => c_58 q.2)] <;> rfl)
      · refine lv_aload_n hx hb dX1_follows_48 rfl (lv_at hl 0 rfl) ?_
        refine va_get (D := D) (ci := 1) (v := .ref (q 4)) (C := RX1) (T := TX1) (N := 15) hx hb hts hin hown hK hP 0 rfl rfl 4 (by decide) (hts (.fieldLink RX1 19 "SignRailModel" "names" "[I") (by decide +kernel)) (fun _ h9 => h9) rfl dX1_follows_49 ?_
        refine lv_aload_n hx hb dX1_follows_52 rfl (lv_at hl 0 rfl) ?_
        refine va_get (D := D) (ci := 1) (v := .int (nI p1)) (C := RX1) (T := TX1) (N := 15) hx hb hts hin hown hK hP 0 rfl rfl 12 (by decide) (hts (.fieldLink RX1 106 "SignRailModel" "at" "I") (by decide +kernel)) (fun _ h9 => h9) rfl dX1_follows_53 ?_
        refine n_iald hx hb hK hP 4 0 rfl rfl (k := p1) (by omega) (Nat.le_of_ble_eq_true rfl) dX1_follows_56 ?_
        refine lv_as (y := nI (NT p1)) (hn1.2.2.1) ?_
        refine lv_iload_n hx hb dX1_follows_57 rfl (lv_at hl 2 rfl) ?_
        refine n_icmp_ne (tgt := 65) hx hb dX1_follows_58 (by decide) (by omega) (by omega) (fun c_58 => ?_) (fun c_58 => ?_)
        · refine lv_iconst (v := nI 0) hx hb dX1_follows_65 (by decide) ?_
          exact j_66 _ (by first | rw [show (arrC NK NT k t) p1 = false from decide_eq_false (fun q => c_45 q.1)] <;> rfl | rw [show (arrC NK NT k t) p1 = false from decide_eq_false (fun q => c_58 q.2)] <;> rfl)
        · refine lv_iconst (v := nI 1) hx hb dX1_follows_61 (by decide) ?_
          refine lv_goto (tgt := 66) hx hb dX1_follows_62 (by decide) ?_
          exact j_66 _ (by rw [show (arrC NK NT k t) p1 = true from decide_eq_true ⟨c_45, c_58⟩]; rfl)
    · subst hv_66
      refine va_put (D := D) (ci := 1) (v := .int (bI ((arrC NK NT k t) p1))) (ty := .boolean) (C := RX1) (T := TX1) (N := 15) hx hb hts hin tyX1 tyX1_ok nmX1 hown hK hP hD hS 0 rfl rfl 13 (by decide) (hts (.fieldLink RX1 109 "SignRailModel" "hasArrived" "Z") (by decide +kernel)) (fun _ h9 => h9) rfl (by decide +kernel) (bI_nar _) (bI_fit _) (Nat.le_of_ble_eq_true rfl) dX1_follows_66 (fun H locs hP hD hS => ?_)
      have hP : va_P D vwCl (wm cI cZ q th sh sp ld nm nk tx mn ds ct co (nI 0) (nI p1) (bI ((arrC NK NT k t) p1)) tk1) H := hP
      have hD : va_D _ (wm cI cZ q th sh sp ld nm nk tx mn ds ct co (nI 0) (nI p1) (bI ((arrC NK NT k t) p1)) tk1) := hD
      refine lv_iconst (v := nI 0) hx hb dX1_follows_69 (by decide) ?_
      refine lv_istore (lv' := [(5, .int (nI 0)), (0, .ref (q 0)), (1, .int (nI p1)), (2, .int (nI t)), (3, .int (nI k)), (4, .int (nI most))]) hx hb dX1_follows_70 hl (by decide) rfl (fun ls hl => ?_)
      refine W.loopH (fun i H locs ls => ∃ (pl1 : Nat) (tB1 : Nat → Bool) (tk1 : Nat → Int32), (pl1 < 8) ∧ (∀ v, v < 32 → tk1 v = bI (tB1 v)) ∧ (pl (toldR sh ct ds K k t) Ld (arrC NK NT k t) (most - i) pl1 tB1 = pl (toldR sh ct ds K k t) Ld (arrC NK NT k t) most p1 tk0) ∧ (sa (toldR sh ct ds K k t) Ld (arrC NK NT k t) (most - i + 1) i pl1 tB1 = sa (toldR sh ct ds K k t) Ld (arrC NK NT k t) (most + 1) 0 p1 tk0) ∧ va_P D vwCl (wm cI cZ q th sh sp ld nm nk tx mn ds ct co (nI i) (nI pl1) (bI ((arrC NK NT k t) pl1)) tk1) H ∧ va_D (k_A (wm cI cZ q th sh sp ld nm nk tx mn ds ct co st at0 ha tk)) (wm cI cZ q th sh sp ld nm nk tx mn ds ct co (nI i) (nI pl1) (bI ((arrC NK NT k t) pl1)) tk1) ∧ va_S (k_A (wm cI cZ q th sh sp ld nm nk tx mn ds ct co st at0 ha tk)) s.heap H locs ∧ lv_has ls 7 [(0, .ref (q 0)), (1, .int (nI p1)), (2, .int (nI t)), (3, .int (nI k)), (4, .int (nI most)), (5, .int (nI 0))]) (most) (0) (by omega) ⟨p1, tk0, tk1, hp, fun v hv => hf0_3 v (by omega), by rw [Nat.sub_zero], by rw [Nat.sub_zero], hP, hD, hS, lv_sub hl [1, 2, 3, 4, 5, 0] rfl⟩ ?_
      intro i H locs ls hi_72 hI_72 ih_72
      obtain ⟨pl1, tB1, tk1, hf0_72, hf1_72, hf2_72, hf3_72, hP, hD, hS, hl⟩ := hI_72
      refine lv_aload_n hx hb dX1_follows_72 rfl (lv_at hl 0 rfl) ?_
      refine va_get (D := D) (ci := 1) (v := .int (bI ((arrC NK NT k t) pl1))) (C := RX1) (T := TX1) (N := 15) hx hb hts hin hown hK hP 0 rfl rfl 13 (by decide) (hts (.fieldLink RX1 109 "SignRailModel" "hasArrived" "Z") (by decide +kernel)) (fun _ h9 => h9) rfl dX1_follows_73 ?_
      refine b_if_ne (tgt := 190) hx hb dX1_follows_76 (by decide) (fun c_76 => ?_) (fun c_76 => ?_)
      · have hp1 : pl (toldR sh ct ds K k t) Ld (arrC NK NT k t) (most - i) pl1 tB1 = pl1 := pl_0a c_76
        exact k_wvret (tk1, nI i, nI pl1, bI ((arrC NK NT k t) pl1))  hx hb hr hlocks dX1_follows_190 (⟨by rw [← hf2_72, hp1], (arrC NK NT k t) pl1, rfl, by rw [c_76, ← hf3_72, sa_a c_76]; rfl⟩) rfl hP hS (Nat.le_of_ble_eq_true rfl) (Nat.le_of_ble_eq_true rfl)
      · refine lv_iload hx hb dX1_follows_79 (lv_at hl 5 rfl) ?_
        refine n_if_ne (tgt := 190) hx hb dX1_follows_81 (by decide) (by decide) (fun c_81 => absurd c_81 (by decide)) (fun _ => ?_)
        refine lv_aload_n hx hb dX1_follows_84 rfl (lv_at hl 0 rfl) ?_
        refine va_get (D := D) (ci := 1) (v := .int (nI i)) (C := RX1) (T := TX1) (N := 15) hx hb hts hin hown hK hP 0 rfl rfl 11 (by decide) (hts (.fieldLink RX1 103 "SignRailModel" "steps" "I") (by decide +kernel)) (fun _ h9 => h9) rfl dX1_follows_85 ?_
        refine lv_iload hx hb dX1_follows_88 (lv_at hl 4 rfl) ?_
        refine n_icmp_ge (tgt := 190) hx hb dX1_follows_90 (by decide) (by omega) (by omega) (fun c_90 => ?_) (fun c_90 => ?_)
        · have hp1 : pl (toldR sh ct ds K k t) Ld (arrC NK NT k t) (most - i) pl1 tB1 = pl1 := by rw [show most - i = 0 from by omega]; rfl
          exact k_wvret (tk1, nI i, nI pl1, bI ((arrC NK NT k t) pl1))  hx hb hr hlocks dX1_follows_190 (⟨by rw [← hf2_72, hp1], (arrC NK NT k t) pl1, rfl, by rw [c_76, ← hf3_72, show most - i + 1 = 1 from by omega, sa_1 c_76]; rfl⟩) rfl hP hS (Nat.le_of_ble_eq_true rfl) (Nat.le_of_ble_eq_true rfl)
        · refine lv_aload_n hx hb dX1_follows_93 rfl (lv_at hl 0 rfl) ?_
          refine lv_aload_n hx hb dX1_follows_94 rfl (lv_at hl 0 rfl) ?_
          refine va_get (D := D) (ci := 1) (v := .int (nI pl1)) (C := RX1) (T := TX1) (N := 15) hx hb hts hin hown hK hP 0 rfl rfl 12 (by decide) (hts (.fieldLink RX1 106 "SignRailModel" "at" "I") (by decide +kernel)) (fun _ h9 => h9) rfl dX1_follows_95 ?_
          refine lv_iload_n hx hb dX1_follows_98 rfl (lv_at hl 2 rfl) ?_
          refine lv_iload_n hx hb dX1_follows_99 rfl (lv_at hl 3 rfl) ?_
          refine k_callVi (As := [.int (nI pl1), .int (nI t), .int (nI k)]) (rest := []) ⟨hx, hb, hml, hown, hts⟩ (c_X1_takes l D cI cZ q th sh sp ld nm nk tx mn ds ct co (nI i) (nI pl1) (bI ((arrC NK NT k t) pl1)) tk1 pl1 hf0_72 t k ht hk tB1 hf1_72 K Ld hGk hLd) (cwV 3 hts gX1_follows_X1_takes rfl rfl rfl (by decide +kernel) ⟨Nat.le_of_ble_eq_true rfl, Nat.le_of_ble_eq_true rfl⟩) k_B_bl (k_B_of hP hK) (va_recv hK hP (ci := 1) (q0 := 0) rfl rfl) rfl hl.1 rfl (Nat.le_of_ble_eq_true rfl) dX1_follows_100 ⟨Nat.zero_le _, Nat.zero_le _⟩ ?_
          refine lv_istore (lv' := [(6, .int (wv pl1 (nx (toldR sh ct ds K k t) Ld tB1 pl1))), (0, .ref (q 0)), (1, .int (nI p1)), (2, .int (nI t)), (3, .int (nI k)), (4, .int (nI most)), (5, .int (nI 0))]) hx hb dX1_follows_103 hl (by decide) rfl (fun ls hl => ?_)
          refine lv_iload hx hb dX1_follows_105 (lv_at hl 0 rfl) ?_
          refine lv_iconst (v := (-1)) hx hb dX1_follows_107 (by decide) ?_
          refine lv_icmp_ne (tgt := 115) hx hb dX1_follows_108 (by decide) (fun c_108 => ?_) (fun c_108 => ?_)
          · have hnx : nx (toldR sh ct ds K k t) Ld tB1 pl1 < 4 ∧ Ld (4 * pl1 + nx (toldR sh ct ds K k t) Ld tB1 pl1) ≠ 8 := nx_lt.resolve_left (fun q => c_108 (by rw [q]; rfl))
            rw [wv_lt hnx.1] at hl
            generalize hne : nx (toldR sh ct ds K k t) Ld tB1 pl1 = ne at hl hnx
            have hle := (hLd (4 * pl1 + ne) (by omega)).1
            have hl8 : Ld (4 * pl1 + ne) < 8 := by have := hnx.2; omega
            refine lv_iconst (v := nI 0) hx hb dX1_follows_115 (by decide) ?_
            refine lv_istore (lv' := [(5, .int (nI 0)), (6, .int (nI (4 * pl1 + ne))), (0, .ref (q 0)), (1, .int (nI p1)), (2, .int (nI t)), (3, .int (nI k)), (4, .int (nI most))]) hx hb dX1_follows_116 hl (by decide) rfl (fun ls hl => ?_)
            refine lv_iload hx hb dX1_follows_118 (lv_at hl 0 rfl) ?_
            refine n_if_ne (tgt := 187) hx hb dX1_follows_120 (by decide) (by decide) (fun c_120 => absurd c_120 (by decide)) (fun _ => ?_)
            refine lv_aload_n hx hb dX1_follows_123 rfl (lv_at hl 2 rfl) ?_
            refine va_get (D := D) (ci := 1) (v := .ref (q 10)) (C := RX1) (T := TX1) (N := 15) hx hb hts hin hown hK hP 0 rfl rfl 14 (by decide) (hts (.fieldLink RX1 37 "SignRailModel" "isTaken" "[Z") (by decide +kernel)) (fun _ h9 => h9) rfl dX1_follows_124 ?_
            refine lv_iload hx hb dX1_follows_127 (lv_at hl 1 rfl) ?_
            refine lv_iconst (v := nI 1) hx hb dX1_follows_129 (by decide) ?_
            refine n_zast hx hb hK hP hD hS 10 1 rfl rfl (k := (4 * pl1 + ne)) (by decide) (by omega) (Nat.le_of_ble_eq_true rfl) dX1_follows_130 (fun H locs hP hD hS => ?_)
            have hP : va_P D vwCl (wm cI cZ q th sh sp ld nm nk tx mn ds ct co (nI i) (nI pl1) (bI ((arrC NK NT k t) pl1)) (upd tk1 (4 * pl1 + ne) (nI 1))) H := hP
            have hD : va_D _ (wm cI cZ q th sh sp ld nm nk tx mn ds ct co (nI i) (nI pl1) (bI ((arrC NK NT k t) pl1)) (upd tk1 (4 * pl1 + ne) (nI 1))) := hD
            refine lv_aload_n hx hb dX1_follows_131 rfl (lv_at hl 2 rfl) ?_
            refine lv_aload_n hx hb dX1_follows_132 rfl (lv_at hl 2 rfl) ?_
            refine va_get (D := D) (ci := 1) (v := .ref (q 3)) (C := RX1) (T := TX1) (N := 15) hx hb hts hin hown hK hP 0 rfl rfl 3 (by decide) (hts (.fieldLink RX1 16 "SignRailModel" "leads" "[I") (by decide +kernel)) (fun _ h9 => h9) rfl dX1_follows_133 ?_
            refine lv_iload hx hb dX1_follows_136 (lv_at hl 1 rfl) ?_
            refine n_iald hx hb hK hP 3 0 rfl rfl (k := (4 * pl1 + ne)) (by omega) (Nat.le_of_ble_eq_true rfl) dX1_follows_138 ?_
            refine lv_as (y := nI (Ld (4 * pl1 + ne))) (((hLd _ (by omega)).2).trans (ix_lt hl8)) ?_
            refine va_put (D := D) (ci := 1) (v := .int (nI (Ld (4 * pl1 + ne)))) (ty := .int) (C := RX1) (T := TX1) (N := 15) hx hb hts hin tyX1 tyX1_ok nmX1 hown hK hP hD hS 0 rfl rfl 12 (by decide) (hts (.fieldLink RX1 106 "SignRailModel" "at" "I") (by decide +kernel)) (fun _ h9 => h9) rfl (by decide +kernel) (rfl) (rfl) (Nat.le_of_ble_eq_true rfl) dX1_follows_139 (fun H locs hP hD hS => ?_)
            have hP : va_P D vwCl (wm cI cZ q th sh sp ld nm nk tx mn ds ct co (nI i) (nI (Ld (4 * pl1 + ne))) (bI ((arrC NK NT k t) pl1)) (upd tk1 (4 * pl1 + ne) (nI 1))) H := hP
            have hD : va_D _ (wm cI cZ q th sh sp ld nm nk tx mn ds ct co (nI i) (nI (Ld (4 * pl1 + ne))) (bI ((arrC NK NT k t) pl1)) (upd tk1 (4 * pl1 + ne) (nI 1))) := hD
            refine lv_aload_n hx hb dX1_follows_142 rfl (lv_at hl 2 rfl) ?_
            refine lv_dup hx hb dX1_follows_143 rfl ?_
            refine va_get (D := D) (ci := 1) (v := .int (nI i)) (C := RX1) (T := TX1) (N := 15) hx hb hts hin hown hK hP 0 rfl rfl 11 (by decide) (hts (.fieldLink RX1 103 "SignRailModel" "steps" "I") (by decide +kernel)) (fun _ h9 => h9) rfl dX1_follows_144 ?_
            refine lv_iconst (v := nI 1) hx hb dX1_follows_147 (by decide) ?_
            refine lv_iadd hx hb dX1_follows_148 ?_
            refine lv_as (y := nI (i + 1)) (nI_add _ _) ?_
            refine va_put (D := D) (ci := 1) (v := .int (nI (i + 1))) (ty := .int) (C := RX1) (T := TX1) (N := 15) hx hb hts hin tyX1 tyX1_ok nmX1 hown hK hP hD hS 0 rfl rfl 11 (by decide) (hts (.fieldLink RX1 103 "SignRailModel" "steps" "I") (by decide +kernel)) (fun _ h9 => h9) rfl (by decide +kernel) (rfl) (rfl) (Nat.le_of_ble_eq_true rfl) dX1_follows_149 (fun H locs hP hD hS => ?_)
            have hP : va_P D vwCl (wm cI cZ q th sh sp ld nm nk tx mn ds ct co (nI (i + 1)) (nI (Ld (4 * pl1 + ne))) (bI ((arrC NK NT k t) pl1)) (upd tk1 (4 * pl1 + ne) (nI 1))) H := hP
            have hD : va_D _ (wm cI cZ q th sh sp ld nm nk tx mn ds ct co (nI (i + 1)) (nI (Ld (4 * pl1 + ne))) (bI ((arrC NK NT k t) pl1)) (upd tk1 (4 * pl1 + ne) (nI 1))) := hD
            refine lv_aload_n hx hb dX1_follows_152 rfl (lv_at hl 2 rfl) ?_
            have hn2 := hN (Ld (4 * pl1 + ne)) (by omega)
            refine W.joinI (pc2 := 184) (st2 := [.ref (q 0)]) (J := fun v => v = bI ((arrC NK NT k t) (Ld (4 * pl1 + ne)))) (fun j_184 => ?_) (fun v_184 hv_184 => ?_)
            · refine lv_aload_n hx hb dX1_follows_153 rfl (lv_at hl 2 rfl) ?_
              refine va_get (D := D) (ci := 1) (v := .ref (q 5)) (C := RX1) (T := TX1) (N := 15) hx hb hts hin hown hK hP 0 rfl rfl 5 (by decide) (hts (.fieldLink RX1 22 "SignRailModel" "nameMany" "[I") (by decide +kernel)) (fun _ h9 => h9) rfl dX1_follows_154 ?_
              refine lv_aload_n hx hb dX1_follows_157 rfl (lv_at hl 2 rfl) ?_
              refine va_get (D := D) (ci := 1) (v := .int (nI (Ld (4 * pl1 + ne)))) (C := RX1) (T := TX1) (N := 15) hx hb hts hin hown hK hP 0 rfl rfl 12 (by decide) (hts (.fieldLink RX1 106 "SignRailModel" "at" "I") (by decide +kernel)) (fun _ h9 => h9) rfl dX1_follows_158 ?_
              refine n_iald hx hb hK hP 5 0 rfl rfl (k := (Ld (4 * pl1 + ne))) (by omega) (Nat.le_of_ble_eq_true rfl) dX1_follows_161 ?_
              refine lv_as (y := nI (NK (Ld (4 * pl1 + ne)))) (hn2.2.2.2) ?_
              refine lv_iload_n hx hb dX1_follows_162 rfl (lv_at hl 5 rfl) ?_
              refine n_icmp_ne (tgt := 183) hx hb dX1_follows_163 (by decide) (by omega) (by omega) (fun c_163 => ?_) (fun c_163 => ?_)
              · refine lv_iconst (v := nI 0) hx hb dX1_follows_183 (by decide) ?_
                exact j_184 _ (by first | rw [show (arrC NK NT k t) (Ld (4 * pl1 + ne)) = false from decide_eq_false (fun q => c_163 q.1)] <;> rfl | rw [show (arrC NK NT k t) (Ld (4 * pl1 + ne)) = false from decide_eq_false (fun q => c_176 q.2)] <;> rfl)
              · refine lv_aload_n hx hb dX1_follows_166 rfl (lv_at hl 2 rfl) ?_
                refine va_get (D := D) (ci := 1) (v := .ref (q 4)) (C := RX1) (T := TX1) (N := 15) hx hb hts hin hown hK hP 0 rfl rfl 4 (by decide) (hts (.fieldLink RX1 19 "SignRailModel" "names" "[I") (by decide +kernel)) (fun _ h9 => h9) rfl dX1_follows_167 ?_
                refine lv_aload_n hx hb dX1_follows_170 rfl (lv_at hl 2 rfl) ?_
                refine va_get (D := D) (ci := 1) (v := .int (nI (Ld (4 * pl1 + ne)))) (C := RX1) (T := TX1) (N := 15) hx hb hts hin hown hK hP 0 rfl rfl 12 (by decide) (hts (.fieldLink RX1 106 "SignRailModel" "at" "I") (by decide +kernel)) (fun _ h9 => h9) rfl dX1_follows_171 ?_
                refine n_iald hx hb hK hP 4 0 rfl rfl (k := (Ld (4 * pl1 + ne))) (by omega) (Nat.le_of_ble_eq_true rfl) dX1_follows_174 ?_
                refine lv_as (y := nI (NT (Ld (4 * pl1 + ne)))) (hn2.2.2.1) ?_
                refine lv_iload_n hx hb dX1_follows_175 rfl (lv_at hl 4 rfl) ?_
                refine n_icmp_ne (tgt := 183) hx hb dX1_follows_176 (by decide) (by omega) (by omega) (fun c_176 => ?_) (fun c_176 => ?_)
                · refine lv_iconst (v := nI 0) hx hb dX1_follows_183 (by decide) ?_
                  exact j_184 _ (by first | rw [show (arrC NK NT k t) (Ld (4 * pl1 + ne)) = false from decide_eq_false (fun q => c_163 q.1)] <;> rfl | rw [show (arrC NK NT k t) (Ld (4 * pl1 + ne)) = false from decide_eq_false (fun q => c_176 q.2)] <;> rfl)
                · refine lv_iconst (v := nI 1) hx hb dX1_follows_179 (by decide) ?_
                  refine lv_goto (tgt := 184) hx hb dX1_follows_180 (by decide) ?_
                  exact j_184 _ (by rw [show (arrC NK NT k t) (Ld (4 * pl1 + ne)) = true from decide_eq_true ⟨c_163, c_176⟩]; rfl)
            · subst hv_184
              refine va_put (D := D) (ci := 1) (v := .int (bI ((arrC NK NT k t) (Ld (4 * pl1 + ne))))) (ty := .boolean) (C := RX1) (T := TX1) (N := 15) hx hb hts hin tyX1 tyX1_ok nmX1 hown hK hP hD hS 0 rfl rfl 13 (by decide) (hts (.fieldLink RX1 109 "SignRailModel" "hasArrived" "Z") (by decide +kernel)) (fun _ h9 => h9) rfl (by decide +kernel) (bI_nar _) (bI_fit _) (Nat.le_of_ble_eq_true rfl) dX1_follows_184 (fun H locs hP hD hS => ?_)
              have hP : va_P D vwCl (wm cI cZ q th sh sp ld nm nk tx mn ds ct co (nI (i + 1)) (nI (Ld (4 * pl1 + ne))) (bI ((arrC NK NT k t) (Ld (4 * pl1 + ne)))) (upd tk1 (4 * pl1 + ne) (nI 1))) H := hP
              have hD : va_D _ (wm cI cZ q th sh sp ld nm nk tx mn ds ct co (nI (i + 1)) (nI (Ld (4 * pl1 + ne))) (bI ((arrC NK NT k t) (Ld (4 * pl1 + ne)))) (upd tk1 (4 * pl1 + ne) (nI 1))) := hD
              refine lv_goto (tgt := 72) hx hb dX1_follows_187 (by decide) ?_
              exact ih_72 _ _ _ (by omega) ⟨Ld (4 * pl1 + ne), tkA tB1 (4 * pl1 + ne), upd tk1 (4 * pl1 + ne) (nI 1), by omega, tk_upd hf1_72, by rw [← hf2_72, show most - i = (most - (i + 1)) + 1 from by omega, pl_s c_76 hne hnx.1], by rw [← hf3_72, show most - i + 1 = (most - (i + 1) + 1) + 1 from by omega, sa_s c_76 hne hnx.1], hP, hD, hS, lv_sub hl [2, 3, 4, 5, 6, 0] rfl⟩
          · have c76 := c_76
            have hlo : nx (toldR sh ct ds K k t) Ld tB1 pl1 = 4 := (wv_m1 hf0_72 (by rcases nx_lt (told := toldR sh ct ds K k t) (Ld := Ld) (tk := tB1) (p := pl1) with q | q <;> omega)).mp c_108
            refine lv_iconst (v := nI 1) hx hb dX1_follows_111 (by decide) ?_
            refine lv_goto (tgt := 116) hx hb dX1_follows_112 (by decide) ?_
            refine lv_istore (lv' := [(5, .int (nI 1)), (6, .int (wv pl1 (nx (toldR sh ct ds K k t) Ld tB1 pl1))), (0, .ref (q 0)), (1, .int (nI p1)), (2, .int (nI t)), (3, .int (nI k)), (4, .int (nI most))]) hx hb dX1_follows_116 hl (by decide) rfl (fun ls hl => ?_)
            refine lv_iload hx hb dX1_follows_118 (lv_at hl 0 rfl) ?_
            refine n_if_ne (tgt := 187) hx hb dX1_follows_120 (by decide) (by decide) (fun _ => ?_) (fun c_120 => absurd c_120 (by decide))
            refine lv_goto (tgt := 72) hx hb dX1_follows_187 (by decide) ?_
            refine lv_aload_n hx hb dX1_follows_72 rfl (lv_at hl 2 rfl) ?_
            refine va_get (D := D) (ci := 1) (v := .int (bI ((arrC NK NT k t) pl1))) (C := RX1) (T := TX1) (N := 15) hx hb hts hin hown hK hP 0 rfl rfl 13 (by decide) (hts (.fieldLink RX1 109 "SignRailModel" "hasArrived" "Z") (by decide +kernel)) (fun _ h9 => h9) rfl dX1_follows_73 ?_
            refine b_if_ne (tgt := 190) hx hb dX1_follows_76 (by decide) (fun c_76 => absurd (c_76.symm.trans c76) (by decide)) (fun c_76 => ?_)
            refine lv_iload hx hb dX1_follows_79 (lv_at hl 0 rfl) ?_
            refine n_if_ne (tgt := 190) hx hb dX1_follows_81 (by decide) (by decide) (fun _ => ?_) (fun c_81 => absurd c_81 (by decide))
            have hp1 : pl (toldR sh ct ds K k t) Ld (arrC NK NT k t) (most - i) pl1 tB1 = pl1 := pl_0l hlo
            exact k_wvret (tk1, nI i, nI pl1, bI ((arrC NK NT k t) pl1))  hx hb hr hlocks dX1_follows_190 (⟨by rw [← hf2_72, hp1], (arrC NK NT k t) pl1, rfl, by rw [c_76, ← hf3_72, sa_l c_76 hlo]; rfl⟩) rfl hP hS (Nat.le_of_ble_eq_true rfl) (Nat.le_of_ble_eq_true rfl)
  · refine lv_aload_n hx hb dX1_follows_10 rfl (lv_at hl 0 rfl) ?_
    refine va_get (D := D) (ci := 1) (v := .ref (q 10)) (C := RX1) (T := TX1) (N := 15) hx hb hts hin hown hK hP 0 rfl rfl 14 (by decide) (hts (.fieldLink RX1 37 "SignRailModel" "isTaken" "[Z") (by decide +kernel)) (fun _ h9 => h9) rfl dX1_follows_11 ?_
    refine lv_iload hx hb dX1_follows_14 (lv_at hl 5 rfl) ?_
    refine lv_iconst (v := nI 0) hx hb dX1_follows_16 (by decide) ?_
    refine n_zast hx hb hK hP hD hS 10 1 rfl rfl (k := i) (by decide) (by omega) (Nat.le_of_ble_eq_true rfl) dX1_follows_17 (fun H locs hP hD hS => ?_)
    have hP : va_P D vwCl (wm cI cZ q th sh sp ld nm nk tx mn ds ct co st at0 ha (upd tk1 i (nI 0))) H := hP
    have hD : va_D _ (wm cI cZ q th sh sp ld nm nk tx mn ds ct co st at0 ha (upd tk1 i (nI 0))) := hD
    refine lv_iinc (v := nI (i + 1)) (lv' := [(5, .int (nI (i + 1))), (0, .ref (q 0)), (1, .int (nI p1)), (2, .int (nI t)), (3, .int (nI k)), (4, .int (nI most))]) hx hb dX1_follows_18 hl (k := 5) rfl (nI_inc _) (by decide) rfl (fun ls hl => ?_)
    refine lv_goto (tgt := 3) hx hb dX1_follows_21 (by decide) ?_
    exact ih_3 _ _ _ (by omega) ⟨upd tk1 i (nI 0), z_upd hf0_3, hP, hD, hS, lv_sub hl [1, 2, 3, 4, 5, 0] rfl⟩
