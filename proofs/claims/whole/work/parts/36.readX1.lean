abbrev hcW (s : Int32) : Nat → Bool := fun x => hcR s x 5
abbrev wdR (sh : Nat → Int32) : Nat → Int32 := fun g => wdF (hcW (sh g))
abbrev dR (sh : Nat → Int32) (x : Int32) : Nat → Int32 := fun g => df (sh g) x
abbrev rdR (sh ct ds : Nat → Int32) (w : Nat) : Nat → Nat := fun j => rdG (dR sh (ct (5 * w + j))) (ds w)
abbrev oldR (sh ct : Nat → Int32) (w t k : Nat) : Nat → Bool := fun j => decide (ct (5 * w + j) ≠ sh (dg t (k - 1 - j)))
def rrN (r : Nat → Nat) : Nat → Nat
  | 0 => 0
  | j + 1 => 8 * rrN r j + r j
theorem rrN_lt {r : Nat → Nat} (h : ∀ j, r j < 8) : ∀ k, rrN r k < 8 ^ k
  | 0 => Nat.one_pos
  | k + 1 => by
    have h1 := rrN_lt h k
    have h2 := h k
    show 8 * rrN r k + r k < 8 ^ k * 8
    omega
def rdasR (sh ct ds : Nat → Int32) (w k gk gt : Nat) : Bool := decide (k = gk ∧ rrN (rdR sh ct ds w) k = gt)
abbrev toldR (sh ct ds : Nat → Int32) (K : Nat → Nat) (gk gt : Nat) : Nat → Bool := fun w => rdasR sh ct ds w (K w) gk gt
theorem pwR_z {wd sp : Nat → Int32} {t n j : Nat} (h : j = 0) : pwR wd sp t n (j + 1) = (pwR wd sp t n j + wd (dg t (n - 1 - j))) + nI 0 := by
  show (_ + if 0 < j then _ else _) = _
  rw [if_neg (by omega)]
theorem pwR_p {wd sp : Nat → Int32} {t n j : Nat} (h : 0 < j) : pwR wd sp t n (j + 1) = (pwR wd sp t n j + wd (dg t (n - 1 - j))) + sp (8 * dg t (n - 1 - (j - 1)) + dg t (n - 1 - j)) := by
  show (_ + if 0 < j then _ else _) = _
  rw [if_pos h]
theorem nr_8 {d : Nat → Int32} {but i n : Nat} (h : i ≠ but) (hn : n = nrN d but i) (h8 : n = 8) : i = nrN d but (i + 1) := by
  rw [nrN_s, if_pos ⟨h, Or.inl (by rw [← hn]; exact h8)⟩]
def gb (b : Nat → Bool) : Nat → Nat
  | 0 => 4
  | n + 1 => if b (3 - n) = true then 3 - n else gb b n
theorem gb_t {b : Nat → Bool} {n : Nat} (h : b (3 - n) = true) : gb b (n + 1) = 3 - n := by
  show (if b (3 - n) = true then _ else _) = _
  rw [if_pos h]
theorem gb_f {b : Nat → Bool} {n : Nat} (h : b (3 - n) = false) : gb b (n + 1) = gb b n := by
  show (if b (3 - n) = true then _ else _) = _
  rw [if_neg (by rw [h]; decide)]
theorem gb_fb (b : Nat → Bool) : gb b 4 = fb b 4 := by
  simp only [gb, fb]
  cases b 0 <;> cases b 1 <;> cases b 2 <;> cases b 3 <;> simp
theorem gb_le (b : Nat → Bool) : ∀ n, n ≤ 4 → gb b n ≤ 4
  | 0, _ => Nat.le_refl _
  | n + 1, h => by
    show (if b (3 - n) = true then _ else _) ≤ 4
    split
    · omega
    · exact gb_le b n (by omega)
theorem sg_lt : ∀ p, p < 8 → ∀ i, i < 5 → (nI (4 * p + (4 - i)) - nI 1 < nI (4 * p) ↔ i = 4) := by decide
theorem sg_eq : ∀ p, p < 8 → ∀ i, i < 4 → nI (4 * p + (4 - i)) - nI 1 = nI (4 * p + (3 - i)) := by decide
theorem sg_dec : ∀ p, p < 8 → ∀ i, i < 4 → nI (4 * p + (3 - i)) + Int32.ofInt (-1) = nI (4 * p + (4 - (i + 1))) - nI 1 := by decide
set_option maxHeartbeats 4000000 in
set_option maxRecDepth 100000 in
theorem c_X1_widthOf (l : Launch) (D : va_G) (cI cZ : ClassId) (q : Nat → Nat) (th : Int32) (sh sp ld nm nk tx mn ds ct : Nat → Int32) (co : Int64) (st at0 ha : Int32) (tk : Nat → Int32) (g : Nat) (hg : g < 8) : k_M l yX1_widthOf wsX1_widthOf ({ frames := 0, cells := 0, slots := 0, locals := 0 } : Room) [.ref (q 0), .int (nI g)] (k_B D (wm cI cZ q th sh sp ld nm nk tx mn ds ct co st at0 ha tk) [(cI, .int), (cZ, .boolean)]) (some (.int (wdF (hcW (sh g))))) := by
  refine k_head (cc := cX1_widthOf) (maxL := 7) (ret := some .int) [(0, .ref (q 0)), (1, .int (nI g))] (by decide) rfl (Nat.le_of_ble_eq_true rfl) rfl ?_
  intro p e s m below meth c ls hx hb hr hml hown hts hlocks hname hB hl
  have hown : s.vm.findClass RX1 = some m.cls := hown
  obtain ⟨hP, hK⟩ := hB
  have hin : ∀ w ∈ wsX10, w ∈ wsX1_widthOf := fun w h => List.mem_cons_of_mem _ (List.mem_append_right _ h)
  refine lv_iconst (v := (-1)) hx hb dX1_widthOf_0 (by decide) ?_
  refine lv_istore_n (lv' := [(2, .int (-1)), (0, .ref (q 0)), (1, .int (nI g))]) hx hb dX1_widthOf_1 rfl hl (by decide) rfl (fun ls hl => ?_)
  refine lv_iconst (v := (-1)) hx hb dX1_widthOf_2 (by decide) ?_
  refine lv_istore_n (lv' := [(3, .int (-1)), (2, .int (-1)), (0, .ref (q 0)), (1, .int (nI g))]) hx hb dX1_widthOf_3 rfl hl (by decide) rfl (fun ls hl => ?_)
  refine lv_iconst (v := nI 0) hx hb dX1_widthOf_4 (by decide) ?_
  refine lv_istore (lv' := [(4, .int (nI 0)), (3, .int (-1)), (2, .int (-1)), (0, .ref (q 0)), (1, .int (nI g))]) hx hb dX1_widthOf_5 hl (by decide) rfl (fun ls hl => ?_)
  refine W.loop (fun i ls => ∃ (f1 : Int32) (l1 : Int32), (f1 = (wfF (hcW (sh g)) i).1) ∧ (l1 = (wfF (hcW (sh g)) i).2) ∧ lv_has ls 7 [(0, .ref (q 0)), (1, .int (nI g)), (2, .int f1), (3, .int l1), (4, .int (nI i))]) (5) (0) (by omega) ⟨(-1), (-1), rfl, rfl, lv_sub hl [3, 4, 2, 1, 0] rfl⟩ ?_
  intro i ls hi_7 hI_7 ih_7
  obtain ⟨f1, l1, hf0_7, hf1_7, hl⟩ := hI_7
  refine lv_iload hx hb dX1_widthOf_7 (lv_at hl 4 rfl) ?_
  refine lv_iconst (v := nI 5) hx hb dX1_widthOf_9 (by decide) ?_
  refine n_icmp_ge (tgt := 98) hx hb dX1_widthOf_10 (by decide) (by omega) (by omega) (fun c_10 => ?_) (fun c_10 => ?_)
  · refine lv_iload_n hx hb dX1_widthOf_98 rfl (lv_at hl 2 rfl) ?_
    refine lv_iconst (v := (-1)) hx hb dX1_widthOf_99 (by decide) ?_
    refine lv_icmp_ne (tgt := 107) hx hb dX1_widthOf_100 (by decide) (fun c_100 => ?_) (fun c_100 => ?_)
    · refine lv_iload_n hx hb dX1_widthOf_107 rfl (lv_at hl 3 rfl) ?_
      refine lv_iload_n hx hb dX1_widthOf_108 rfl (lv_at hl 2 rfl) ?_
      refine lv_isub hx hb dX1_widthOf_109 ?_
      refine lv_iconst (v := nI 1) hx hb dX1_widthOf_110 (by decide) ?_
      refine lv_iadd hx hb dX1_widthOf_111 ?_
      have h5 : i = 5 := by omega
      subst h5
      exact k_iret hx hb hr hlocks dX1_widthOf_112 (by simp [wdF, ← hf0_7, ← hf1_7, c_100])
    · refine lv_iconst (v := nI 2) hx hb dX1_widthOf_103 (by decide) ?_
      refine lv_goto (tgt := 112) hx hb dX1_widthOf_104 (by decide) ?_
      have h5 : i = 5 := by omega
      subst h5
      exact k_iret hx hb hr hlocks dX1_widthOf_112 (by simp [wdF, ← hf0_7, ← hf1_7, c_100])
  · refine lv_iconst (v := nI 0) hx hb dX1_widthOf_13 (by decide) ?_
    refine lv_istore (lv' := [(5, .int (nI 0)), (0, .ref (q 0)), (1, .int (nI g)), (2, .int f1), (3, .int l1), (4, .int (nI i))]) hx hb dX1_widthOf_14 hl (by decide) rfl (fun ls hl => ?_)
    refine lv_iconst (v := nI 0) hx hb dX1_widthOf_16 (by decide) ?_
    refine lv_istore (lv' := [(6, .int (nI 0)), (5, .int (nI 0)), (0, .ref (q 0)), (1, .int (nI g)), (2, .int f1), (3, .int l1), (4, .int (nI i))]) hx hb dX1_widthOf_17 hl (by decide) rfl (fun ls hl => ?_)
    refine W.loop (fun j ls => lv_has ls 7 [(0, .ref (q 0)), (1, .int (nI g)), (2, .int f1), (3, .int l1), (4, .int (nI i)), (5, .int (bI (hcR (sh g) i j))), (6, .int (nI j))]) (5) (0) (by omega) (lv_sub hl [2, 3, 4, 5, 6, 1, 0] rfl) ?_
    intro j ls hi_19 hI_19 ih_19
    have hl := hI_19
    refine lv_iload hx hb dX1_widthOf_19 (lv_at hl 6 rfl) ?_
    refine lv_iconst (v := nI 5) hx hb dX1_widthOf_21 (by decide) ?_
    refine n_icmp_ge (tgt := 63) hx hb dX1_widthOf_22 (by decide) (by omega) (by omega) (fun c_22 => ?_) (fun c_22 => ?_)
    · have hj : j = 5 := by omega
      subst hj
      refine lv_iload hx hb dX1_widthOf_63 (lv_at hl 5 rfl) ?_
      refine b_if_eq (tgt := 78) hx hb dX1_widthOf_65 (by decide) (fun c_65 => ?_) (fun c_65 => ?_)
      · refine lv_iload_n hx hb dX1_widthOf_78 rfl (lv_at hl 2 rfl) ?_
        refine lv_istore_n (lv' := [(2, .int f1), (0, .ref (q 0)), (1, .int (nI g)), (3, .int l1), (4, .int (nI i)), (5, .int (bI (hcR (sh g) i 5))), (6, .int (nI 5))]) hx hb dX1_widthOf_79 rfl hl (by decide) rfl (fun ls hl => ?_)
        refine lv_iload hx hb dX1_widthOf_80 (lv_at hl 5 rfl) ?_
        refine b_if_eq (tgt := 90) hx hb dX1_widthOf_82 (by decide) (fun c_82 => ?_) (fun c_82 => absurd (c_82.symm.trans c_65) (by decide))
        refine lv_iload_n hx hb dX1_widthOf_90 rfl (lv_at hl 3 rfl) ?_
        refine lv_istore_n (lv' := [(3, .int l1), (2, .int f1), (0, .ref (q 0)), (1, .int (nI g)), (4, .int (nI i)), (5, .int (bI (hcR (sh g) i 5))), (6, .int (nI 5))]) hx hb dX1_widthOf_91 rfl hl (by decide) rfl (fun ls hl => ?_)
        refine lv_iinc (v := nI (i + 1)) (lv' := [(4, .int (nI (i + 1))), (3, .int l1), (2, .int f1), (0, .ref (q 0)), (1, .int (nI g)), (5, .int (bI (hcR (sh g) i 5))), (6, .int (nI 5))]) hx hb dX1_widthOf_92 hl (k := 4) rfl (nI_inc _) (by decide) rfl (fun ls hl => ?_)
        refine lv_goto (tgt := 7) hx hb dX1_widthOf_95 (by decide) ?_
        exact ih_7 _ (by omega) ⟨f1, l1, by rw [wfF_f (h := hcW (sh g)) (k := i) c_65]; exact hf0_7, by rw [wfF_f (h := hcW (sh g)) (k := i) c_65]; exact hf1_7, lv_sub hl [3, 4, 2, 1, 0] rfl⟩
      · refine lv_iload_n hx hb dX1_widthOf_68 rfl (lv_at hl 2 rfl) ?_
        refine lv_iconst (v := (-1)) hx hb dX1_widthOf_69 (by decide) ?_
        refine lv_icmp_ne (tgt := 78) hx hb dX1_widthOf_70 (by decide) (fun c_70 => ?_) (fun c_70 => ?_)
        · refine lv_iload_n hx hb dX1_widthOf_78 rfl (lv_at hl 2 rfl) ?_
          refine lv_istore_n (lv' := [(2, .int f1), (0, .ref (q 0)), (1, .int (nI g)), (3, .int l1), (4, .int (nI i)), (5, .int (bI (hcR (sh g) i 5))), (6, .int (nI 5))]) hx hb dX1_widthOf_79 rfl hl (by decide) rfl (fun ls hl => ?_)
          refine lv_iload hx hb dX1_widthOf_80 (lv_at hl 5 rfl) ?_
          refine b_if_eq (tgt := 90) hx hb dX1_widthOf_82 (by decide) (fun c_82 => absurd (c_82.symm.trans c_65) (by decide)) (fun c_82 => ?_)
          refine lv_iload hx hb dX1_widthOf_85 (lv_at hl 4 rfl) ?_
          refine lv_goto (tgt := 91) hx hb dX1_widthOf_87 (by decide) ?_
          refine lv_istore_n (lv' := [(3, .int (nI i)), (2, .int f1), (0, .ref (q 0)), (1, .int (nI g)), (4, .int (nI i)), (5, .int (bI (hcR (sh g) i 5))), (6, .int (nI 5))]) hx hb dX1_widthOf_91 rfl hl (by decide) rfl (fun ls hl => ?_)
          refine lv_iinc (v := nI (i + 1)) (lv' := [(4, .int (nI (i + 1))), (3, .int (nI i)), (2, .int f1), (0, .ref (q 0)), (1, .int (nI g)), (5, .int (bI (hcR (sh g) i 5))), (6, .int (nI 5))]) hx hb dX1_widthOf_92 hl (k := 4) rfl (nI_inc _) (by decide) rfl (fun ls hl => ?_)
          refine lv_goto (tgt := 7) hx hb dX1_widthOf_95 (by decide) ?_
          exact ih_7 _ (by omega) ⟨f1, nI i, by rw [wfF_t (h := hcW (sh g)) (k := i) c_65, ← hf0_7]; exact (if_neg c_70).symm, by rw [wfF_t (h := hcW (sh g)) (k := i) c_65], lv_sub hl [3, 4, 2, 1, 0] rfl⟩
        · refine lv_iload hx hb dX1_widthOf_73 (lv_at hl 4 rfl) ?_
          refine lv_goto (tgt := 79) hx hb dX1_widthOf_75 (by decide) ?_
          refine lv_istore_n (lv' := [(2, .int (nI i)), (0, .ref (q 0)), (1, .int (nI g)), (3, .int l1), (4, .int (nI i)), (5, .int (bI (hcR (sh g) i 5))), (6, .int (nI 5))]) hx hb dX1_widthOf_79 rfl hl (by decide) rfl (fun ls hl => ?_)
          refine lv_iload hx hb dX1_widthOf_80 (lv_at hl 5 rfl) ?_
          refine b_if_eq (tgt := 90) hx hb dX1_widthOf_82 (by decide) (fun c_82 => absurd (c_82.symm.trans c_65) (by decide)) (fun c_82 => ?_)
          refine lv_iload hx hb dX1_widthOf_85 (lv_at hl 4 rfl) ?_
          refine lv_goto (tgt := 91) hx hb dX1_widthOf_87 (by decide) ?_
          refine lv_istore_n (lv' := [(3, .int (nI i)), (2, .int (nI i)), (0, .ref (q 0)), (1, .int (nI g)), (4, .int (nI i)), (5, .int (bI (hcR (sh g) i 5))), (6, .int (nI 5))]) hx hb dX1_widthOf_91 rfl hl (by decide) rfl (fun ls hl => ?_)
          refine lv_iinc (v := nI (i + 1)) (lv' := [(4, .int (nI (i + 1))), (3, .int (nI i)), (2, .int (nI i)), (0, .ref (q 0)), (1, .int (nI g)), (5, .int (bI (hcR (sh g) i 5))), (6, .int (nI 5))]) hx hb dX1_widthOf_92 hl (k := 4) rfl (nI_inc _) (by decide) rfl (fun ls hl => ?_)
          refine lv_goto (tgt := 7) hx hb dX1_widthOf_95 (by decide) ?_
          exact ih_7 _ (by omega) ⟨nI i, nI i, by rw [wfF_t (h := hcW (sh g)) (k := i) c_65, ← hf0_7]; exact (if_pos c_70).symm, by rw [wfF_t (h := hcW (sh g)) (k := i) c_65], lv_sub hl [3, 4, 2, 1, 0] rfl⟩
    · refine lv_iload hx hb dX1_widthOf_25 (lv_at hl 5 rfl) ?_
      refine b_if_ne (tgt := 50) hx hb dX1_widthOf_27 (by decide) (fun c_27 => ?_) (fun c_27 => ?_)
      · refine lv_iconst (v := nI 1) hx hb dX1_widthOf_50 (by decide) ?_
        refine lv_as (y := bI (hcR (sh g) i (j + 1))) (by first | (rw [hcR, c_27]; rfl) | (rw [hcR, bitI, decide_eq_true c_47, Bool.or_true]; rfl)) ?_
        refine lv_goto (tgt := 55) hx hb dX1_widthOf_51 (by decide) ?_
        refine lv_istore (lv' := [(5, .int (bI (hcR (sh g) i (j + 1)))), (0, .ref (q 0)), (1, .int (nI g)), (2, .int f1), (3, .int l1), (4, .int (nI i)), (6, .int (nI j))]) hx hb dX1_widthOf_55 hl (by decide) rfl (fun ls hl => ?_)
        refine lv_iinc (v := nI (j + 1)) (lv' := [(6, .int (nI (j + 1))), (5, .int (bI (hcR (sh g) i (j + 1)))), (0, .ref (q 0)), (1, .int (nI g)), (2, .int f1), (3, .int l1), (4, .int (nI i))]) hx hb dX1_widthOf_57 hl (k := 6) rfl (nI_inc _) (by decide) rfl (fun ls hl => ?_)
        refine lv_goto (tgt := 19) hx hb dX1_widthOf_60 (by decide) ?_
        exact ih_19 _ (by omega) (lv_sub hl [2, 3, 4, 5, 6, 1, 0] rfl)
      · refine lv_aload_n hx hb dX1_widthOf_30 rfl (lv_at hl 0 rfl) ?_
        refine va_get (D := D) (ci := 1) (v := .ref (q 1)) (C := RX1) (T := TX1) (N := 15) hx hb hts hin hown hK hP 0 rfl rfl 1 (by decide) (hts (.fieldLink RX1 7 "SignRailModel" "shapes" "[I") (by decide +kernel)) (fun _ h9 => h9) rfl dX1_widthOf_31 ?_
        refine lv_iload_n hx hb dX1_widthOf_34 rfl (lv_at hl 1 rfl) ?_
        refine n_iald hx hb hK hP 1 0 rfl rfl (k := g) (by omega) (Nat.le_of_ble_eq_true rfl) dX1_widthOf_35 ?_
        refine lv_iconst (v := nI 5) hx hb dX1_widthOf_36 (by decide) ?_
        refine lv_iload hx hb dX1_widthOf_37 (lv_at hl 6 rfl) ?_
        refine lv_imul hx hb dX1_widthOf_39 ?_
        refine lv_as (y := nI (5 * j)) (pk_mul _ _) ?_
        refine lv_iload hx hb dX1_widthOf_40 (lv_at hl 4 rfl) ?_
        refine lv_iadd hx hb dX1_widthOf_42 ?_
        refine lv_as (y := nI ((5 * j) + i)) (nI_add _ _) ?_
        refine lv_ishr hx hb dX1_widthOf_43 ?_
        refine lv_iconst (v := nI 1) hx hb dX1_widthOf_44 (by decide) ?_
        refine lv_iand hx hb dX1_widthOf_45 ?_
        refine lv_iconst (v := nI 1) hx hb dX1_widthOf_46 (by decide) ?_
        refine lv_icmp_ne (tgt := 54) hx hb dX1_widthOf_47 (by decide) (fun c_47 => ?_) (fun c_47 => ?_)
        · refine lv_iconst (v := nI 0) hx hb dX1_widthOf_54 (by decide) ?_
          refine lv_as (y := bI (hcR (sh g) i (j + 1))) (by rw [hcR, bitI, decide_eq_false c_47, c_27]; rfl) ?_
          refine lv_istore (lv' := [(5, .int (bI (hcR (sh g) i (j + 1)))), (0, .ref (q 0)), (1, .int (nI g)), (2, .int f1), (3, .int l1), (4, .int (nI i)), (6, .int (nI j))]) hx hb dX1_widthOf_55 hl (by decide) rfl (fun ls hl => ?_)
          refine lv_iinc (v := nI (j + 1)) (lv' := [(6, .int (nI (j + 1))), (5, .int (bI (hcR (sh g) i (j + 1)))), (0, .ref (q 0)), (1, .int (nI g)), (2, .int f1), (3, .int l1), (4, .int (nI i))]) hx hb dX1_widthOf_57 hl (k := 6) rfl (nI_inc _) (by decide) rfl (fun ls hl => ?_)
          refine lv_goto (tgt := 19) hx hb dX1_widthOf_60 (by decide) ?_
          exact ih_19 _ (by omega) (lv_sub hl [2, 3, 4, 5, 6, 1, 0] rfl)
        · refine lv_iconst (v := nI 1) hx hb dX1_widthOf_50 (by decide) ?_
          refine lv_as (y := bI (hcR (sh g) i (j + 1))) (by first | (rw [hcR, c_27]; rfl) | (rw [hcR, bitI, decide_eq_true c_47, Bool.or_true]; rfl)) ?_
          refine lv_goto (tgt := 55) hx hb dX1_widthOf_51 (by decide) ?_
          refine lv_istore (lv' := [(5, .int (bI (hcR (sh g) i (j + 1)))), (0, .ref (q 0)), (1, .int (nI g)), (2, .int f1), (3, .int l1), (4, .int (nI i)), (6, .int (nI j))]) hx hb dX1_widthOf_55 hl (by decide) rfl (fun ls hl => ?_)
          refine lv_iinc (v := nI (j + 1)) (lv' := [(6, .int (nI (j + 1))), (5, .int (bI (hcR (sh g) i (j + 1)))), (0, .ref (q 0)), (1, .int (nI g)), (2, .int f1), (3, .int l1), (4, .int (nI i))]) hx hb dX1_widthOf_57 hl (k := 6) rfl (nI_inc _) (by decide) rfl (fun ls hl => ?_)
          refine lv_goto (tgt := 19) hx hb dX1_widthOf_60 (by decide) ?_
          exact ih_19 _ (by omega) (lv_sub hl [2, 3, 4, 5, 6, 1, 0] rfl)
set_option maxHeartbeats 4000000 in
set_option maxRecDepth 100000 in
theorem c_X1_widthOfText (l : Launch) (D : va_G) (cI cZ : ClassId) (q : Nat → Nat) (th : Int32) (sh sp ld nm nk tx mn ds ct : Nat → Int32) (co : Int64) (st at0 ha : Int32) (tk : Nat → Int32) (t k : Nat) (ht : t < 32768) (hk : k ≤ 5) : k_M l yX1_widthOfText wsX1_widthOfText ({ frames := 2, cells := 0, slots := 0, locals := 44 } : Room) [.ref (q 0), .int (nI t), .int (nI k)] (k_B D (wm cI cZ q th sh sp ld nm nk tx mn ds ct co st at0 ha tk) [(cI, .int), (cZ, .boolean)]) (some (.int (pwR (wdR sh) sp t k k))) := by
  refine k_head (cc := cX1_widthOfText) (maxL := 5) (ret := some .int) [(0, .ref (q 0)), (1, .int (nI t)), (2, .int (nI k))] (by decide) rfl (Nat.le_of_ble_eq_true rfl) rfl ?_
  intro p e s m below meth c ls hx hb hr hml hown hts hlocks hname hB hl
  have hown : s.vm.findClass RX1 = some m.cls := hown
  obtain ⟨hP, hK⟩ := hB
  have hin : ∀ w ∈ wsX10, w ∈ wsX1_widthOfText := fun w h => List.mem_cons_of_mem _ (List.mem_append_right _ h)
  refine lv_iconst (v := nI 0) hx hb dX1_widthOfText_0 (by decide) ?_
  refine lv_istore_n (lv' := [(3, .int (nI 0)), (0, .ref (q 0)), (1, .int (nI t)), (2, .int (nI k))]) hx hb dX1_widthOfText_1 rfl hl (by decide) rfl (fun ls hl => ?_)
  refine lv_iconst (v := nI 0) hx hb dX1_widthOfText_2 (by decide) ?_
  refine lv_istore (lv' := [(4, .int (nI 0)), (3, .int (nI 0)), (0, .ref (q 0)), (1, .int (nI t)), (2, .int (nI k))]) hx hb dX1_widthOfText_3 hl (by decide) rfl (fun ls hl => ?_)
  refine W.loop (fun i ls => ∃ (v3 : Int32), (v3 = pwR (wdR sh) sp t k i) ∧ lv_has ls 5 [(0, .ref (q 0)), (1, .int (nI t)), (2, .int (nI k)), (3, .int v3), (4, .int (nI i))]) (k) (0) (by omega) ⟨nI 0, rfl, lv_sub hl [2, 3, 4, 1, 0] rfl⟩ ?_
  intro i ls hi_5 hI_5 ih_5
  obtain ⟨v3, hf0_5, hl⟩ := hI_5
  refine lv_iload hx hb dX1_widthOfText_5 (lv_at hl 4 rfl) ?_
  refine lv_iload_n hx hb dX1_widthOfText_7 rfl (lv_at hl 2 rfl) ?_
  refine n_icmp_ge (tgt := 68) hx hb dX1_widthOfText_8 (by decide) (by omega) (by omega) (fun c_8 => ?_) (fun c_8 => ?_)
  · refine lv_iload_n hx hb dX1_widthOfText_68 rfl (lv_at hl 3 rfl) ?_
    exact k_iret hx hb hr hlocks dX1_widthOfText_69 (by rw [hf0_5, show i = k from by omega])
  · refine lv_iload_n hx hb dX1_widthOfText_11 rfl (lv_at hl 3 rfl) ?_
    refine lv_aload_n hx hb dX1_widthOfText_12 rfl (lv_at hl 0 rfl) ?_
    refine lv_iload_n hx hb dX1_widthOfText_13 rfl (lv_at hl 1 rfl) ?_
    refine lv_iload_n hx hb dX1_widthOfText_14 rfl (lv_at hl 2 rfl) ?_
    refine lv_iload hx hb dX1_widthOfText_15 (lv_at hl 4 rfl) ?_
    refine k_callSi (As := [.int (nI t), .int (nI k), .int (nI i)]) (rest := [.ref (q 0), .int v3]) ⟨hx, hb, hml, hown, hts⟩ (c_X1_glyph l t k i (by omega) (by omega) (by omega)) (va_cwS 3 hts gX1_widthOfText_X1_glyph rfl rfl rfl (by decide +kernel) ⟨Nat.le_of_ble_eq_true rfl, Nat.le_of_ble_eq_true rfl⟩) k_bl_tt (fun _ _ _ => trivial) rfl hl.1 rfl (Nat.le_of_ble_eq_true rfl) dX1_widthOfText_17 ⟨Nat.zero_le _, Nat.zero_le _⟩ ?_
    refine k_callVi (As := [.int (nI (dg t (k - 1 - i)))]) (rest := [.int v3]) ⟨hx, hb, hml, hown, hts⟩ (c_X1_widthOf l D cI cZ q th sh sp ld nm nk tx mn ds ct co st at0 ha tk (dg t (k - 1 - i)) (dg_lt _ _)) (cwV 1 hts gX1_widthOfText_X1_widthOf rfl rfl rfl (by decide +kernel) ⟨Nat.le_of_ble_eq_true rfl, Nat.le_of_ble_eq_true rfl⟩) k_B_bl (k_B_of hP hK) (va_recv hK hP (ci := 1) (q0 := 0) rfl rfl) rfl hl.1 rfl (Nat.le_of_ble_eq_true rfl) dX1_widthOfText_20 ⟨Nat.zero_le _, Nat.zero_le _⟩ ?_
    refine lv_iadd hx hb dX1_widthOfText_23 ?_
    refine lv_istore_n (lv' := [(3, .int (v3 + (wdF (hcW (sh (dg t (k - 1 - i))))))), (0, .ref (q 0)), (1, .int (nI t)), (2, .int (nI k)), (4, .int (nI i))]) hx hb dX1_widthOfText_24 rfl hl (by decide) rfl (fun ls hl => ?_)
    refine lv_iload_n hx hb dX1_widthOfText_25 rfl (lv_at hl 0 rfl) ?_
    refine lv_iload hx hb dX1_widthOfText_26 (lv_at hl 4 rfl) ?_
    refine n_if_le (tgt := 59) hx hb dX1_widthOfText_28 (by decide) (by omega) (fun c_28 => ?_) (fun c_28 => ?_)
    · refine lv_iconst (v := nI 0) hx hb dX1_widthOfText_59 (by decide) ?_
      refine lv_iadd hx hb dX1_widthOfText_60 ?_
      refine lv_istore_n (lv' := [(3, .int ((v3 + (wdF (hcW (sh (dg t (k - 1 - i)))))) + (nI 0))), (0, .ref (q 0)), (1, .int (nI t)), (2, .int (nI k)), (4, .int (nI i))]) hx hb dX1_widthOfText_61 rfl hl (by decide) rfl (fun ls hl => ?_)
      refine lv_iinc (v := nI (i + 1)) (lv' := [(4, .int (nI (i + 1))), (3, .int ((v3 + (wdF (hcW (sh (dg t (k - 1 - i)))))) + (nI 0))), (0, .ref (q 0)), (1, .int (nI t)), (2, .int (nI k))]) hx hb dX1_widthOfText_62 hl (k := 4) rfl (nI_inc _) (by decide) rfl (fun ls hl => ?_)
      refine lv_goto (tgt := 5) hx hb dX1_widthOfText_65 (by decide) ?_
      exact ih_5 _ (by omega) ⟨(v3 + (wdF (hcW (sh (dg t (k - 1 - i)))))) + (nI 0), by rw [pwR_z c_28, ← hf0_5], lv_sub hl [2, 3, 4, 1, 0] rfl⟩
    · refine lv_aload_n hx hb dX1_widthOfText_31 rfl (lv_at hl 1 rfl) ?_
      refine va_get (D := D) (ci := 1) (v := .ref (q 2)) (C := RX1) (T := TX1) (N := 15) hx hb hts hin hown hK hP 0 rfl rfl 2 (by decide) (hts (.fieldLink RX1 13 "SignRailModel" "spaces" "[I") (by decide +kernel)) (fun _ h9 => h9) rfl dX1_widthOfText_32 ?_
      refine lv_bipush (v := nI 8) hx hb dX1_widthOfText_35 (by decide) ?_
      refine lv_iload_n hx hb dX1_widthOfText_37 rfl (lv_at hl 2 rfl) ?_
      refine lv_iload_n hx hb dX1_widthOfText_38 rfl (lv_at hl 3 rfl) ?_
      refine lv_iload hx hb dX1_widthOfText_39 (lv_at hl 4 rfl) ?_
      refine lv_iconst (v := nI 1) hx hb dX1_widthOfText_41 (by decide) ?_
      refine lv_isub hx hb dX1_widthOfText_42 ?_
      refine lv_as (y := nI (i - 1)) (pk_sub (by omega)) ?_
      refine k_callSi (As := [.int (nI t), .int (nI k), .int (nI (i - 1))]) (rest := [.int (nI 8), .ref (q 2), .int (v3 + (wdF (hcW (sh (dg t (k - 1 - i))))))]) ⟨hx, hb, hml, hown, hts⟩ (c_X1_glyph l t k (i - 1) (by omega) (by omega) (by omega)) (va_cwS 3 hts gX1_widthOfText_X1_glyph rfl rfl rfl (by decide +kernel) ⟨Nat.le_of_ble_eq_true rfl, Nat.le_of_ble_eq_true rfl⟩) k_bl_tt (fun _ _ _ => trivial) rfl hl.1 rfl (Nat.le_of_ble_eq_true rfl) dX1_widthOfText_43 ⟨Nat.zero_le _, Nat.zero_le _⟩ ?_
      refine lv_imul hx hb dX1_widthOfText_46 ?_
      refine lv_as (y := nI (8 * (dg t (k - 1 - (i - 1))))) (pk_mul _ _) ?_
      refine lv_iload_n hx hb dX1_widthOfText_47 rfl (lv_at hl 2 rfl) ?_
      refine lv_iload_n hx hb dX1_widthOfText_48 rfl (lv_at hl 3 rfl) ?_
      refine lv_iload hx hb dX1_widthOfText_49 (lv_at hl 4 rfl) ?_
      refine k_callSi (As := [.int (nI t), .int (nI k), .int (nI i)]) (rest := [.int (nI (8 * (dg t (k - 1 - (i - 1))))), .ref (q 2), .int (v3 + (wdF (hcW (sh (dg t (k - 1 - i))))))]) ⟨hx, hb, hml, hown, hts⟩ (c_X1_glyph l t k i (by omega) (by omega) (by omega)) (va_cwS 3 hts gX1_widthOfText_X1_glyph rfl rfl rfl (by decide +kernel) ⟨Nat.le_of_ble_eq_true rfl, Nat.le_of_ble_eq_true rfl⟩) k_bl_tt (fun _ _ _ => trivial) rfl hl.1 rfl (Nat.le_of_ble_eq_true rfl) dX1_widthOfText_51 ⟨Nat.zero_le _, Nat.zero_le _⟩ ?_
      refine lv_iadd hx hb dX1_widthOfText_54 ?_
      refine lv_as (y := nI ((8 * (dg t (k - 1 - (i - 1)))) + (dg t (k - 1 - i)))) (nI_add _ _) ?_
      refine n_iald hx hb hK hP 2 0 rfl rfl (k := ((8 * (dg t (k - 1 - (i - 1)))) + (dg t (k - 1 - i)))) (by have h1 := dg_lt t (k - 1 - i); have h2 := dg_lt t (k - 1 - (i - 1)); omega) (Nat.le_of_ble_eq_true rfl) dX1_widthOfText_55 ?_
      refine lv_goto (tgt := 60) hx hb dX1_widthOfText_56 (by decide) ?_
      refine lv_iadd hx hb dX1_widthOfText_60 ?_
      refine lv_istore_n (lv' := [(3, .int ((v3 + (wdF (hcW (sh (dg t (k - 1 - i)))))) + (sp ((8 * (dg t (k - 1 - (i - 1)))) + (dg t (k - 1 - i)))))), (0, .ref (q 0)), (1, .int (nI t)), (2, .int (nI k)), (4, .int (nI i))]) hx hb dX1_widthOfText_61 rfl hl (by decide) rfl (fun ls hl => ?_)
      refine lv_iinc (v := nI (i + 1)) (lv' := [(4, .int (nI (i + 1))), (3, .int ((v3 + (wdF (hcW (sh (dg t (k - 1 - i)))))) + (sp ((8 * (dg t (k - 1 - (i - 1)))) + (dg t (k - 1 - i)))))), (0, .ref (q 0)), (1, .int (nI t)), (2, .int (nI k))]) hx hb dX1_widthOfText_62 hl (k := 4) rfl (nI_inc _) (by decide) rfl (fun ls hl => ?_)
      refine lv_goto (tgt := 5) hx hb dX1_widthOfText_65 (by decide) ?_
      exact ih_5 _ (by omega) ⟨(v3 + (wdF (hcW (sh (dg t (k - 1 - i)))))) + (sp ((8 * (dg t (k - 1 - (i - 1)))) + (dg t (k - 1 - i)))), by rw [pwR_p c_28, ← hf0_5], lv_sub hl [2, 3, 4, 1, 0] rfl⟩
set_option maxHeartbeats 4000000 in
set_option maxRecDepth 100000 in
theorem c_X1_plate (l : Launch) (D : va_G) (cI cZ : ClassId) (q : Nat → Nat) (th : Int32) (sh sp ld nm nk tx mn ds ct : Nat → Int32) (co : Int64) (st at0 ha : Int32) (tk : Nat → Int32) (t k : Nat) (ht : t < 32768) (hk : k ≤ 5) : k_M l yX1_plate wsX1_plate ({ frames := 3, cells := 0, slots := 0, locals := 68 } : Room) [.ref (q 0), .int (nI t), .int (nI k)] (k_B D (wm cI cZ q th sh sp ld nm nk tx mn ds ct co st at0 ha tk) [(cI, .int), (cZ, .boolean)]) (some (.int (plF (pwR (wdR sh) sp t k k)))) := by
  refine k_head (cc := cX1_plate) (maxL := 4) (ret := some .int) [(0, .ref (q 0)), (1, .int (nI t)), (2, .int (nI k))] (by decide) rfl (Nat.le_of_ble_eq_true rfl) rfl ?_
  intro p e s m below meth c ls hx hb hr hml hown hts hlocks hname hB hl
  have hown : s.vm.findClass RX1 = some m.cls := hown
  obtain ⟨hP, hK⟩ := hB
  have hin : ∀ w ∈ wsX10, w ∈ wsX1_plate := fun w h => List.mem_cons_of_mem _ (List.mem_append_right _ h)
  refine lv_aload_n hx hb dX1_plate_0 rfl (lv_at hl 0 rfl) ?_
  refine lv_iload_n hx hb dX1_plate_1 rfl (lv_at hl 1 rfl) ?_
  refine lv_iload_n hx hb dX1_plate_2 rfl (lv_at hl 2 rfl) ?_
  refine k_callVi (As := [.int (nI t), .int (nI k)]) (rest := []) ⟨hx, hb, hml, hown, hts⟩ (c_X1_widthOfText l D cI cZ q th sh sp ld nm nk tx mn ds ct co st at0 ha tk t k (by omega) (by omega)) (cwV 2 hts gX1_plate_X1_widthOfText rfl rfl rfl (by decide +kernel) ⟨Nat.le_of_ble_eq_true rfl, Nat.le_of_ble_eq_true rfl⟩) k_B_bl (k_B_of hP hK) (va_recv hK hP (ci := 1) (q0 := 0) rfl rfl) rfl hl.1 rfl (Nat.le_of_ble_eq_true rfl) dX1_plate_3 ⟨Nat.zero_le _, Nat.zero_le _⟩ ?_
  refine lv_istore_n (lv' := [(3, .int (pwR (wdR sh) sp t k k)), (0, .ref (q 0)), (1, .int (nI t)), (2, .int (nI k))]) hx hb dX1_plate_6 rfl hl (by decide) rfl (fun ls hl => ?_)
  refine lv_iload_n hx hb dX1_plate_7 rfl (lv_at hl 0 rfl) ?_
  refine lv_bipush (v := nI 10) hx hb dX1_plate_8 (by decide) ?_
  refine lv_icmp_gt (tgt := 17) hx hb dX1_plate_10 (by decide) (fun c_10 => ?_) (fun c_10 => ?_)
  · refine lv_iload_n hx hb dX1_plate_17 rfl (lv_at hl 0 rfl) ?_
    refine lv_bipush (v := nI 20) hx hb dX1_plate_18 (by decide) ?_
    refine lv_icmp_gt (tgt := 28) hx hb dX1_plate_20 (by decide) (fun c_20 => ?_) (fun c_20 => ?_)
    · refine lv_iload_n hx hb dX1_plate_28 rfl (lv_at hl 0 rfl) ?_
      refine lv_bipush (v := nI 30) hx hb dX1_plate_29 (by decide) ?_
      refine lv_icmp_gt (tgt := 39) hx hb dX1_plate_31 (by decide) (fun c_31 => ?_) (fun c_31 => ?_)
      · refine lv_iconst (v := (-1)) hx hb dX1_plate_39 (by decide) ?_
        exact k_iret hx hb hr hlocks dX1_plate_40 (by rw [plF, if_pos c_10, if_pos c_20, if_pos c_31])
      · refine lv_bipush (v := nI 10) hx hb dX1_plate_34 (by decide) ?_
        refine lv_goto (tgt := 40) hx hb dX1_plate_36 (by decide) ?_
        exact k_iret hx hb hr hlocks dX1_plate_40 (by rw [plF, if_pos c_10, if_pos c_20, if_neg c_31])
    · refine lv_bipush (v := nI 7) hx hb dX1_plate_23 (by decide) ?_
      refine lv_goto (tgt := 40) hx hb dX1_plate_25 (by decide) ?_
      exact k_iret hx hb hr hlocks dX1_plate_40 (by rw [plF, if_pos c_10, if_neg c_20])
  · refine lv_iconst (v := nI 4) hx hb dX1_plate_13 (by decide) ?_
    refine lv_goto (tgt := 40) hx hb dX1_plate_14 (by decide) ?_
    exact k_iret hx hb hr hlocks dX1_plate_40 (by rw [plF, if_neg c_10])
set_option maxHeartbeats 4000000 in
set_option maxRecDepth 100000 in
theorem c_X1_old (l : Launch) (D : va_G) (cI cZ : ClassId) (q : Nat → Nat) (th : Int32) (sh sp ld nm nk tx mn ds ct : Nat → Int32) (co : Int64) (st at0 ha : Int32) (tk : Nat → Int32) (w t k : Nat) (hw : w < 32) (ht : t < 32768) (hk : k ≤ 5) (htx : tx w = nI t) (hmn : mn w = nI k) : k_M l yX1_old wsX1_old ({ frames := 2, cells := 0, slots := 0, locals := 44 } : Room) [.ref (q 0), .int (nI w)] (k_B D (wm cI cZ q th sh sp ld nm nk tx mn ds ct co st at0 ha tk) [(cI, .int), (cZ, .boolean)]) (some (.int (bI (anyB (oldR sh ct w t k) k)))) := by
  refine k_head (cc := cX1_old) (maxL := 4) (ret := some .boolean) [(0, .ref (q 0)), (1, .int (nI w))] (by decide) rfl (Nat.le_of_ble_eq_true rfl) rfl ?_
  intro p e s m below meth c ls hx hb hr hml hown hts hlocks hname hB hl
  have hown : s.vm.findClass RX1 = some m.cls := hown
  obtain ⟨hP, hK⟩ := hB
  have hin : ∀ w ∈ wsX10, w ∈ wsX1_old := fun w h => List.mem_cons_of_mem _ (List.mem_append_right _ h)
  refine lv_iconst (v := nI 0) hx hb dX1_old_0 (by decide) ?_
  refine lv_istore_n (lv' := [(2, .int (nI 0)), (0, .ref (q 0)), (1, .int (nI w))]) hx hb dX1_old_1 rfl hl (by decide) rfl (fun ls hl => ?_)
  refine lv_iconst (v := nI 0) hx hb dX1_old_2 (by decide) ?_
  refine lv_istore_n (lv' := [(3, .int (nI 0)), (2, .int (nI 0)), (0, .ref (q 0)), (1, .int (nI w))]) hx hb dX1_old_3 rfl hl (by decide) rfl (fun ls hl => ?_)
  refine W.loop (fun i ls => lv_has ls 4 [(0, .ref (q 0)), (1, .int (nI w)), (2, .int (bI (anyB (oldR sh ct w t k) i))), (3, .int (nI i))]) (k) (0) (by omega) (lv_sub hl [2, 3, 1, 0] rfl) ?_
  intro i ls hi_4 hI_4 ih_4
  have hl := hI_4
  refine lv_iload_n hx hb dX1_old_4 rfl (lv_at hl 3 rfl) ?_
  refine lv_aload_n hx hb dX1_old_5 rfl (lv_at hl 0 rfl) ?_
  refine va_get (D := D) (ci := 1) (v := .ref (q 7)) (C := RX1) (T := TX1) (N := 15) hx hb hts hin hown hK hP 0 rfl rfl 7 (by decide) (hts (.fieldLink RX1 28 "SignRailModel" "many" "[I") (by decide +kernel)) (fun _ h9 => h9) rfl dX1_old_6 ?_
  refine lv_iload_n hx hb dX1_old_9 rfl (lv_at hl 1 rfl) ?_
  refine n_iald hx hb hK hP 7 0 rfl rfl (k := w) (by omega) (Nat.le_of_ble_eq_true rfl) dX1_old_10 ?_
  refine lv_as (y := nI k) (hmn) ?_
  refine n_icmp_ge (tgt := 64) hx hb dX1_old_11 (by decide) (by omega) (by omega) (fun c_11 => ?_) (fun c_11 => ?_)
  · refine lv_iload_n hx hb dX1_old_64 rfl (lv_at hl 2 rfl) ?_
    exact k_zret hx hb hr hlocks dX1_old_65 (by rw [show i = k from by omega])
  · refine lv_iload_n hx hb dX1_old_14 rfl (lv_at hl 2 rfl) ?_
    refine b_if_ne (tgt := 52) hx hb dX1_old_15 (by decide) (fun c_15 => ?_) (fun c_15 => ?_)
    · refine lv_iconst (v := nI 1) hx hb dX1_old_52 (by decide) ?_
      refine lv_as (y := bI (anyB (oldR sh ct w t k) (i + 1))) (by first | (rw [anyB, c_15]; rfl) | (rw [anyB, show oldR sh ct w t k i = true from decide_eq_true c_49, Bool.or_true]; rfl)) ?_
      refine lv_goto (tgt := 57) hx hb dX1_old_53 (by decide) ?_
      refine lv_istore_n (lv' := [(2, .int (bI (anyB (oldR sh ct w t k) (i + 1)))), (0, .ref (q 0)), (1, .int (nI w)), (3, .int (nI i))]) hx hb dX1_old_57 rfl hl (by decide) rfl (fun ls hl => ?_)
      refine lv_iinc (v := nI (i + 1)) (lv' := [(3, .int (nI (i + 1))), (2, .int (bI (anyB (oldR sh ct w t k) (i + 1)))), (0, .ref (q 0)), (1, .int (nI w))]) hx hb dX1_old_58 hl (k := 3) rfl (nI_inc _) (by decide) rfl (fun ls hl => ?_)
      refine lv_goto (tgt := 4) hx hb dX1_old_61 (by decide) ?_
      exact ih_4 _ (by omega) (lv_sub hl [2, 3, 1, 0] rfl)
    · refine lv_aload_n hx hb dX1_old_18 rfl (lv_at hl 0 rfl) ?_
      refine va_get (D := D) (ci := 1) (v := .ref (q 9)) (C := RX1) (T := TX1) (N := 15) hx hb hts hin hown hK hP 0 rfl rfl 9 (by decide) (hts (.fieldLink RX1 34 "SignRailModel" "cuts" "[I") (by decide +kernel)) (fun _ h9 => h9) rfl dX1_old_19 ?_
      refine lv_iconst (v := nI 5) hx hb dX1_old_22 (by decide) ?_
      refine lv_iload_n hx hb dX1_old_23 rfl (lv_at hl 1 rfl) ?_
      refine lv_imul hx hb dX1_old_24 ?_
      refine lv_as (y := nI (5 * w)) (pk_mul _ _) ?_
      refine lv_iload_n hx hb dX1_old_25 rfl (lv_at hl 3 rfl) ?_
      refine lv_iadd hx hb dX1_old_26 ?_
      refine lv_as (y := nI ((5 * w) + i)) (nI_add _ _) ?_
      refine n_iald hx hb hK hP 9 0 rfl rfl (k := ((5 * w) + i)) (by omega) (Nat.le_of_ble_eq_true rfl) dX1_old_27 ?_
      refine lv_aload_n hx hb dX1_old_28 rfl (lv_at hl 0 rfl) ?_
      refine va_get (D := D) (ci := 1) (v := .ref (q 1)) (C := RX1) (T := TX1) (N := 15) hx hb hts hin hown hK hP 0 rfl rfl 1 (by decide) (hts (.fieldLink RX1 7 "SignRailModel" "shapes" "[I") (by decide +kernel)) (fun _ h9 => h9) rfl dX1_old_29 ?_
      refine lv_aload_n hx hb dX1_old_32 rfl (lv_at hl 0 rfl) ?_
      refine va_get (D := D) (ci := 1) (v := .ref (q 6)) (C := RX1) (T := TX1) (N := 15) hx hb hts hin hown hK hP 0 rfl rfl 6 (by decide) (hts (.fieldLink RX1 25 "SignRailModel" "texts" "[I") (by decide +kernel)) (fun _ h9 => h9) rfl dX1_old_33 ?_
      refine lv_iload_n hx hb dX1_old_36 rfl (lv_at hl 1 rfl) ?_
      refine n_iald hx hb hK hP 6 0 rfl rfl (k := w) (by omega) (Nat.le_of_ble_eq_true rfl) dX1_old_37 ?_
      refine lv_as (y := nI t) (htx) ?_
      refine lv_aload_n hx hb dX1_old_38 rfl (lv_at hl 0 rfl) ?_
      refine va_get (D := D) (ci := 1) (v := .ref (q 7)) (C := RX1) (T := TX1) (N := 15) hx hb hts hin hown hK hP 0 rfl rfl 7 (by decide) (hts (.fieldLink RX1 28 "SignRailModel" "many" "[I") (by decide +kernel)) (fun _ h9 => h9) rfl dX1_old_39 ?_
      refine lv_iload_n hx hb dX1_old_42 rfl (lv_at hl 1 rfl) ?_
      refine n_iald hx hb hK hP 7 0 rfl rfl (k := w) (by omega) (Nat.le_of_ble_eq_true rfl) dX1_old_43 ?_
      refine lv_as (y := nI k) (hmn) ?_
      refine lv_iload_n hx hb dX1_old_44 rfl (lv_at hl 3 rfl) ?_
      refine k_callSi (As := [.int (nI t), .int (nI k), .int (nI i)]) (rest := [.ref (q 1), .int (ct ((5 * w) + i))]) ⟨hx, hb, hml, hown, hts⟩ (c_X1_glyph l t k i (by omega) (by omega) (by omega)) (va_cwS 3 hts gX1_old_X1_glyph rfl rfl rfl (by decide +kernel) ⟨Nat.le_of_ble_eq_true rfl, Nat.le_of_ble_eq_true rfl⟩) k_bl_tt (fun _ _ _ => trivial) rfl hl.1 rfl (Nat.le_of_ble_eq_true rfl) dX1_old_45 ⟨Nat.zero_le _, Nat.zero_le _⟩ ?_
      refine n_iald hx hb hK hP 1 0 rfl rfl (k := (dg t (k - 1 - i))) (dg_lt _ _) (Nat.le_of_ble_eq_true rfl) dX1_old_48 ?_
      refine lv_icmp_eq (tgt := 56) hx hb dX1_old_49 (by decide) (fun c_49 => ?_) (fun c_49 => ?_)
      · refine lv_iconst (v := nI 0) hx hb dX1_old_56 (by decide) ?_
        refine lv_as (y := bI (anyB (oldR sh ct w t k) (i + 1))) (by rw [anyB, c_15, show oldR sh ct w t k i = false from decide_eq_false (fun q => q c_49)]; rfl) ?_
        refine lv_istore_n (lv' := [(2, .int (bI (anyB (oldR sh ct w t k) (i + 1)))), (0, .ref (q 0)), (1, .int (nI w)), (3, .int (nI i))]) hx hb dX1_old_57 rfl hl (by decide) rfl (fun ls hl => ?_)
        refine lv_iinc (v := nI (i + 1)) (lv' := [(3, .int (nI (i + 1))), (2, .int (bI (anyB (oldR sh ct w t k) (i + 1)))), (0, .ref (q 0)), (1, .int (nI w))]) hx hb dX1_old_58 hl (k := 3) rfl (nI_inc _) (by decide) rfl (fun ls hl => ?_)
        refine lv_goto (tgt := 4) hx hb dX1_old_61 (by decide) ?_
        exact ih_4 _ (by omega) (lv_sub hl [2, 3, 1, 0] rfl)
      · refine lv_iconst (v := nI 1) hx hb dX1_old_52 (by decide) ?_
        refine lv_as (y := bI (anyB (oldR sh ct w t k) (i + 1))) (by first | (rw [anyB, c_15]; rfl) | (rw [anyB, show oldR sh ct w t k i = true from decide_eq_true c_49, Bool.or_true]; rfl)) ?_
        refine lv_goto (tgt := 57) hx hb dX1_old_53 (by decide) ?_
        refine lv_istore_n (lv' := [(2, .int (bI (anyB (oldR sh ct w t k) (i + 1)))), (0, .ref (q 0)), (1, .int (nI w)), (3, .int (nI i))]) hx hb dX1_old_57 rfl hl (by decide) rfl (fun ls hl => ?_)
        refine lv_iinc (v := nI (i + 1)) (lv' := [(3, .int (nI (i + 1))), (2, .int (bI (anyB (oldR sh ct w t k) (i + 1)))), (0, .ref (q 0)), (1, .int (nI w))]) hx hb dX1_old_58 hl (k := 3) rfl (nI_inc _) (by decide) rfl (fun ls hl => ?_)
        refine lv_goto (tgt := 4) hx hb dX1_old_61 (by decide) ?_
        exact ih_4 _ (by omega) (lv_sub hl [2, 3, 1, 0] rfl)
set_option maxHeartbeats 4000000 in
set_option maxRecDepth 100000 in
theorem c_X1_nearest (l : Launch) (D : va_G) (cI cZ : ClassId) (q : Nat → Nat) (th : Int32) (sh sp ld nm nk tx mn ds ct : Nat → Int32) (co : Int64) (st at0 ha : Int32) (tk : Nat → Int32) (x : Int32) (b : Nat) (hb8 : b ≤ 8) : k_M l yX1_nearest wsX1_nearest ({ frames := 1, cells := 0, slots := 0, locals := 22 } : Room) [.ref (q 0), .int x, .int (ix b)] (k_B D (wm cI cZ q th sh sp ld nm nk tx mn ds ct co st at0 ha tk) [(cI, .int), (cZ, .boolean)]) (some (.int (ix (nrN (dR sh x) b 8)))) := by
  refine k_head (cc := cX1_nearest) (maxL := 6) (ret := some .int) [(0, .ref (q 0)), (1, .int x), (2, .int (ix b))] (by decide) rfl (Nat.le_of_ble_eq_true rfl) rfl ?_
  intro p e s m below meth c ls hx hb hr hml hown hts hlocks hname hB hl
  have hown : s.vm.findClass RX1 = some m.cls := hown
  obtain ⟨hP, hK⟩ := hB
  have hin : ∀ w ∈ wsX10, w ∈ wsX1_nearest := fun w h => List.mem_cons_of_mem _ (List.mem_append_right _ h)
  refine lv_iconst (v := (-1)) hx hb dX1_nearest_0 (by decide) ?_
  refine lv_istore_n (lv' := [(3, .int (-1)), (0, .ref (q 0)), (1, .int x), (2, .int (ix b))]) hx hb dX1_nearest_1 rfl hl (by decide) rfl (fun ls hl => ?_)
  refine lv_iconst (v := nI 0) hx hb dX1_nearest_2 (by decide) ?_
  refine lv_istore (lv' := [(4, .int (nI 0)), (3, .int (-1)), (0, .ref (q 0)), (1, .int x), (2, .int (ix b))]) hx hb dX1_nearest_3 hl (by decide) rfl (fun ls hl => ?_)
  refine W.loop (fun i ls => ∃ (n : Nat), (n = nrN (dR sh x) b i) ∧ (n ≤ 8) ∧ lv_has ls 6 [(0, .ref (q 0)), (1, .int x), (2, .int (ix b)), (3, .int (ix n)), (4, .int (nI i))]) (8) (0) (by omega) ⟨8, rfl, Nat.le_refl 8, lv_sub hl [2, 3, 4, 1, 0] rfl⟩ ?_
  intro i ls hi_5 hI_5 ih_5
  obtain ⟨n, hf0_5, hf1_5, hl⟩ := hI_5
  refine lv_iload hx hb dX1_nearest_5 (lv_at hl 4 rfl) ?_
  refine lv_bipush (v := nI 8) hx hb dX1_nearest_7 (by decide) ?_
  refine n_icmp_ge (tgt := 74) hx hb dX1_nearest_9 (by decide) (by omega) (by omega) (fun c_9 => ?_) (fun c_9 => ?_)
  · refine lv_iload_n hx hb dX1_nearest_74 rfl (lv_at hl 3 rfl) ?_
    exact k_iret hx hb hr hlocks dX1_nearest_75 (by rw [hf0_5, show i = 8 from by omega])
  · refine lv_iload hx hb dX1_nearest_12 (lv_at hl 4 rfl) ?_
    refine lv_iload_n hx hb dX1_nearest_14 rfl (lv_at hl 2 rfl) ?_
    refine lv_icmp_eq (tgt := 53) hx hb dX1_nearest_15 (by decide) (fun c_15 => ?_) (fun c_15 => ?_)
    · refine lv_iconst (v := nI 0) hx hb dX1_nearest_53 (by decide) ?_
      refine lv_istore (lv' := [(5, .int (nI 0)), (0, .ref (q 0)), (1, .int x), (2, .int (ix b)), (3, .int (ix n)), (4, .int (nI i))]) hx hb dX1_nearest_54 hl (by decide) rfl (fun ls hl => ?_)
      refine lv_iload hx hb dX1_nearest_56 (lv_at hl 0 rfl) ?_
      refine n_if_eq (tgt := 66) hx hb dX1_nearest_58 (by decide) (by decide) (fun _ => ?_) (fun c_58 => absurd c_58 (by decide))
      refine lv_iload_n hx hb dX1_nearest_66 rfl (lv_at hl 4 rfl) ?_
      refine lv_istore_n (lv' := [(3, .int (ix n)), (5, .int (nI 0)), (0, .ref (q 0)), (1, .int x), (2, .int (ix b)), (4, .int (nI i))]) hx hb dX1_nearest_67 rfl hl (by decide) rfl (fun ls hl => ?_)
      refine lv_iinc (v := nI (i + 1)) (lv' := [(4, .int (nI (i + 1))), (3, .int (ix n)), (5, .int (nI 0)), (0, .ref (q 0)), (1, .int x), (2, .int (ix b))]) hx hb dX1_nearest_68 hl (k := 5) rfl (nI_inc _) (by decide) rfl (fun ls hl => ?_)
      refine lv_goto (tgt := 5) hx hb dX1_nearest_71 (by decide) ?_
      exact ih_5 _ (by omega) ⟨n, by rw [nr_eq ((ix_eq hb8 c_9).mp c_15)]; exact hf0_5, hf1_5, lv_sub hl [3, 4, 5, 1, 0] rfl⟩
    · refine lv_iload_n hx hb dX1_nearest_18 rfl (lv_at hl 3 rfl) ?_
      refine lv_iconst (v := (-1)) hx hb dX1_nearest_19 (by decide) ?_
      refine lv_icmp_eq (tgt := 49) hx hb dX1_nearest_20 (by decide) (fun c_20 => ?_) (fun c_20 => ?_)
      · refine lv_iconst (v := nI 1) hx hb dX1_nearest_49 (by decide) ?_
        refine lv_goto (tgt := 54) hx hb dX1_nearest_50 (by decide) ?_
        refine lv_istore (lv' := [(5, .int (nI 1)), (0, .ref (q 0)), (1, .int x), (2, .int (ix b)), (3, .int (ix n)), (4, .int (nI i))]) hx hb dX1_nearest_54 hl (by decide) rfl (fun ls hl => ?_)
        refine lv_iload hx hb dX1_nearest_56 (lv_at hl 0 rfl) ?_
        refine n_if_eq (tgt := 66) hx hb dX1_nearest_58 (by decide) (by decide) (fun c_58 => absurd c_58 (by decide)) (fun _ => ?_)
        refine lv_iload hx hb dX1_nearest_61 (lv_at hl 5 rfl) ?_
        refine lv_as (y := ix i) ((ix_lt c_9).symm) ?_
        refine lv_goto (tgt := 67) hx hb dX1_nearest_63 (by decide) ?_
        refine lv_istore_n (lv' := [(3, .int (ix i)), (5, .int (nI 1)), (0, .ref (q 0)), (1, .int x), (2, .int (ix b)), (4, .int (nI i))]) hx hb dX1_nearest_67 rfl hl (by decide) rfl (fun ls hl => ?_)
        refine lv_iinc (v := nI (i + 1)) (lv' := [(4, .int (nI (i + 1))), (3, .int (ix i)), (5, .int (nI 1)), (0, .ref (q 0)), (1, .int x), (2, .int (ix b))]) hx hb dX1_nearest_68 hl (k := 5) rfl (nI_inc _) (by decide) rfl (fun ls hl => ?_)
        refine lv_goto (tgt := 5) hx hb dX1_nearest_71 (by decide) ?_
        exact ih_5 _ (by omega) ⟨i, nr_8 (fun q => c_15 ((ix_eq hb8 c_9).mpr q)) hf0_5 ((ix_m1 hf1_5).mp c_20), Nat.le_of_lt c_9, lv_sub hl [3, 4, 5, 1, 0] rfl⟩
      · have hn8 : n < 8 := Nat.lt_of_le_of_ne hf1_5 (fun q => c_20 ((ix_m1 hf1_5).mpr q))
        refine lv_aload_n hx hb dX1_nearest_23 rfl (lv_at hl 0 rfl) ?_
        refine va_get (D := D) (ci := 1) (v := .ref (q 1)) (C := RX1) (T := TX1) (N := 15) hx hb hts hin hown hK hP 0 rfl rfl 1 (by decide) (hts (.fieldLink RX1 7 "SignRailModel" "shapes" "[I") (by decide +kernel)) (fun _ h9 => h9) rfl dX1_nearest_24 ?_
        refine lv_iload hx hb dX1_nearest_27 (lv_at hl 4 rfl) ?_
        refine n_iald hx hb hK hP 1 0 rfl rfl (k := i) (by omega) (Nat.le_of_ble_eq_true rfl) dX1_nearest_29 ?_
        refine lv_iload_n hx hb dX1_nearest_30 rfl (lv_at hl 1 rfl) ?_
        refine lv_ixor hx hb dX1_nearest_31 ?_
        refine k_callSi (As := [.int ((sh i) ^^^ x)]) (rest := []) ⟨hx, hb, hml, hown, hts⟩ (c_X1_bits l ((sh i) ^^^ x)) (va_cwS 1 hts gX1_nearest_X1_bits rfl rfl rfl (by decide +kernel) ⟨Nat.le_of_ble_eq_true rfl, Nat.le_of_ble_eq_true rfl⟩) k_bl_tt (fun _ _ _ => trivial) rfl hl.1 rfl (Nat.le_of_ble_eq_true rfl) dX1_nearest_32 ⟨Nat.zero_le _, Nat.zero_le _⟩ ?_
        refine lv_as (y := df (sh i) x) (rfl) ?_
        refine lv_aload_n hx hb dX1_nearest_35 rfl (lv_at hl 0 rfl) ?_
        refine va_get (D := D) (ci := 1) (v := .ref (q 1)) (C := RX1) (T := TX1) (N := 15) hx hb hts hin hown hK hP 0 rfl rfl 1 (by decide) (hts (.fieldLink RX1 7 "SignRailModel" "shapes" "[I") (by decide +kernel)) (fun _ h9 => h9) rfl dX1_nearest_36 ?_
        refine lv_iload_n hx hb dX1_nearest_39 rfl (lv_at hl 3 rfl) ?_
        refine lv_as (y := nI n) (ix_lt hn8) ?_
        refine n_iald hx hb hK hP 1 0 rfl rfl (k := n) (by omega) (Nat.le_of_ble_eq_true rfl) dX1_nearest_40 ?_
        refine lv_iload_n hx hb dX1_nearest_41 rfl (lv_at hl 1 rfl) ?_
        refine lv_ixor hx hb dX1_nearest_42 ?_
        refine k_callSi (As := [.int ((sh n) ^^^ x)]) (rest := [.int (df (sh i) x)]) ⟨hx, hb, hml, hown, hts⟩ (c_X1_bits l ((sh n) ^^^ x)) (va_cwS 1 hts gX1_nearest_X1_bits rfl rfl rfl (by decide +kernel) ⟨Nat.le_of_ble_eq_true rfl, Nat.le_of_ble_eq_true rfl⟩) k_bl_tt (fun _ _ _ => trivial) rfl hl.1 rfl (Nat.le_of_ble_eq_true rfl) dX1_nearest_43 ⟨Nat.zero_le _, Nat.zero_le _⟩ ?_
        refine lv_as (y := df (sh n) x) (rfl) ?_
        refine lv_icmp_ge (tgt := 53) hx hb dX1_nearest_46 (by decide) (fun c_46 => ?_) (fun c_46 => ?_)
        · refine lv_iconst (v := nI 0) hx hb dX1_nearest_53 (by decide) ?_
          refine lv_istore (lv' := [(5, .int (nI 0)), (0, .ref (q 0)), (1, .int x), (2, .int (ix b)), (3, .int (ix n)), (4, .int (nI i))]) hx hb dX1_nearest_54 hl (by decide) rfl (fun ls hl => ?_)
          refine lv_iload hx hb dX1_nearest_56 (lv_at hl 0 rfl) ?_
          refine n_if_eq (tgt := 66) hx hb dX1_nearest_58 (by decide) (by decide) (fun _ => ?_) (fun c_58 => absurd c_58 (by decide))
          refine lv_iload_n hx hb dX1_nearest_66 rfl (lv_at hl 4 rfl) ?_
          refine lv_istore_n (lv' := [(3, .int (ix n)), (5, .int (nI 0)), (0, .ref (q 0)), (1, .int x), (2, .int (ix b)), (4, .int (nI i))]) hx hb dX1_nearest_67 rfl hl (by decide) rfl (fun ls hl => ?_)
          refine lv_iinc (v := nI (i + 1)) (lv' := [(4, .int (nI (i + 1))), (3, .int (ix n)), (5, .int (nI 0)), (0, .ref (q 0)), (1, .int x), (2, .int (ix b))]) hx hb dX1_nearest_68 hl (k := 5) rfl (nI_inc _) (by decide) rfl (fun ls hl => ?_)
          refine lv_goto (tgt := 5) hx hb dX1_nearest_71 (by decide) ?_
          exact ih_5 _ (by omega) ⟨n, nr_ge hf0_5 hn8 (le_nlt c_46), hf1_5, lv_sub hl [3, 4, 5, 1, 0] rfl⟩
        · refine lv_iconst (v := nI 1) hx hb dX1_nearest_49 (by decide) ?_
          refine lv_goto (tgt := 54) hx hb dX1_nearest_50 (by decide) ?_
          refine lv_istore (lv' := [(5, .int (nI 1)), (0, .ref (q 0)), (1, .int x), (2, .int (ix b)), (3, .int (ix n)), (4, .int (nI i))]) hx hb dX1_nearest_54 hl (by decide) rfl (fun ls hl => ?_)
          refine lv_iload hx hb dX1_nearest_56 (lv_at hl 0 rfl) ?_
          refine n_if_eq (tgt := 66) hx hb dX1_nearest_58 (by decide) (by decide) (fun c_58 => absurd c_58 (by decide)) (fun _ => ?_)
          refine lv_iload hx hb dX1_nearest_61 (lv_at hl 5 rfl) ?_
          refine lv_as (y := ix i) ((ix_lt c_9).symm) ?_
          refine lv_goto (tgt := 67) hx hb dX1_nearest_63 (by decide) ?_
          refine lv_istore_n (lv' := [(3, .int (ix i)), (5, .int (nI 1)), (0, .ref (q 0)), (1, .int x), (2, .int (ix b)), (4, .int (nI i))]) hx hb dX1_nearest_67 rfl hl (by decide) rfl (fun ls hl => ?_)
          refine lv_iinc (v := nI (i + 1)) (lv' := [(4, .int (nI (i + 1))), (3, .int (ix i)), (5, .int (nI 1)), (0, .ref (q 0)), (1, .int x), (2, .int (ix b))]) hx hb dX1_nearest_68 hl (k := 5) rfl (nI_inc _) (by decide) rfl (fun ls hl => ?_)
          refine lv_goto (tgt := 5) hx hb dX1_nearest_71 (by decide) ?_
          exact ih_5 _ (by omega) ⟨i, nr_lt (fun q => c_15 ((ix_eq hb8 c_9).mpr q)) hf0_5 (fa_of_nle c_46), Nat.le_of_lt c_9, lv_sub hl [3, 4, 5, 1, 0] rfl⟩
set_option maxHeartbeats 4000000 in
set_option maxRecDepth 100000 in
theorem c_X1_reads (l : Launch) (D : va_G) (cI cZ : ClassId) (q : Nat → Nat) (th : Int32) (sh sp ld nm nk tx mn ds ct : Nat → Int32) (co : Int64) (st at0 ha : Int32) (tk : Nat → Int32) (w k : Nat) (hw : w < 32) (hk : k ≤ 5) (hmn : mn w = nI k) : k_M l yX1_reads wsX1_reads ({ frames := 2, cells := 0, slots := 0, locals := 47 } : Room) [.ref (q 0), .int (nI w)] (k_B D (wm cI cZ q th sh sp ld nm nk tx mn ds ct co st at0 ha tk) [(cI, .int), (cZ, .boolean)]) (some (.int (nI (rrN (rdR sh ct ds w) k)))) := by
  refine k_head (cc := cX1_reads) (maxL := 8) (ret := some .int) [(0, .ref (q 0)), (1, .int (nI w))] (by decide) rfl (Nat.le_of_ble_eq_true rfl) rfl ?_
  intro p e s m below meth c ls hx hb hr hml hown hts hlocks hname hB hl
  have hown : s.vm.findClass RX1 = some m.cls := hown
  obtain ⟨hP, hK⟩ := hB
  have hin : ∀ w ∈ wsX10, w ∈ wsX1_reads := fun w h => List.mem_cons_of_mem _ (List.mem_append_right _ h)
  refine lv_iconst (v := nI 0) hx hb dX1_reads_0 (by decide) ?_
  refine lv_istore_n (lv' := [(2, .int (nI 0)), (0, .ref (q 0)), (1, .int (nI w))]) hx hb dX1_reads_1 rfl hl (by decide) rfl (fun ls hl => ?_)
  refine lv_iconst (v := nI 0) hx hb dX1_reads_2 (by decide) ?_
  refine lv_istore_n (lv' := [(3, .int (nI 0)), (2, .int (nI 0)), (0, .ref (q 0)), (1, .int (nI w))]) hx hb dX1_reads_3 rfl hl (by decide) rfl (fun ls hl => ?_)
  refine W.loop (fun i ls => lv_has ls 8 [(0, .ref (q 0)), (1, .int (nI w)), (2, .int (nI (rrN (rdR sh ct ds w) i))), (3, .int (nI i))]) (k) (0) (by omega) (lv_sub hl [2, 3, 1, 0] rfl) ?_
  intro i ls hi_4 hI_4 ih_4
  have hl := hI_4
  refine lv_iload_n hx hb dX1_reads_4 rfl (lv_at hl 3 rfl) ?_
  refine lv_aload_n hx hb dX1_reads_5 rfl (lv_at hl 0 rfl) ?_
  refine va_get (D := D) (ci := 1) (v := .ref (q 7)) (C := RX1) (T := TX1) (N := 15) hx hb hts hin hown hK hP 0 rfl rfl 7 (by decide) (hts (.fieldLink RX1 28 "SignRailModel" "many" "[I") (by decide +kernel)) (fun _ h9 => h9) rfl dX1_reads_6 ?_
  refine lv_iload_n hx hb dX1_reads_9 rfl (lv_at hl 1 rfl) ?_
  refine n_iald hx hb hK hP 7 0 rfl rfl (k := w) (by omega) (Nat.le_of_ble_eq_true rfl) dX1_reads_10 ?_
  refine lv_as (y := nI k) (hmn) ?_
  refine n_icmp_ge (tgt := 112) hx hb dX1_reads_11 (by decide) (by omega) (by omega) (fun c_11 => ?_) (fun c_11 => ?_)
  · refine lv_iload_n hx hb dX1_reads_112 rfl (lv_at hl 2 rfl) ?_
    exact k_iret hx hb hr hlocks dX1_reads_113 (by rw [show i = k from by omega])
  · refine lv_aload_n hx hb dX1_reads_14 rfl (lv_at hl 0 rfl) ?_
    refine va_get (D := D) (ci := 1) (v := .ref (q 9)) (C := RX1) (T := TX1) (N := 15) hx hb hts hin hown hK hP 0 rfl rfl 9 (by decide) (hts (.fieldLink RX1 34 "SignRailModel" "cuts" "[I") (by decide +kernel)) (fun _ h9 => h9) rfl dX1_reads_15 ?_
    refine lv_iconst (v := nI 5) hx hb dX1_reads_18 (by decide) ?_
    refine lv_iload_n hx hb dX1_reads_19 rfl (lv_at hl 1 rfl) ?_
    refine lv_imul hx hb dX1_reads_20 ?_
    refine lv_as (y := nI (5 * w)) (pk_mul _ _) ?_
    refine lv_iload_n hx hb dX1_reads_21 rfl (lv_at hl 3 rfl) ?_
    refine lv_iadd hx hb dX1_reads_22 ?_
    refine lv_as (y := nI ((5 * w) + i)) (nI_add _ _) ?_
    refine n_iald hx hb hK hP 9 0 rfl rfl (k := ((5 * w) + i)) (by omega) (Nat.le_of_ble_eq_true rfl) dX1_reads_23 ?_
    refine lv_istore (lv' := [(4, .int (ct ((5 * w) + i))), (0, .ref (q 0)), (1, .int (nI w)), (2, .int (nI (rrN (rdR sh ct ds w) i))), (3, .int (nI i))]) hx hb dX1_reads_24 hl (by decide) rfl (fun ls hl => ?_)
    refine lv_aload_n hx hb dX1_reads_26 rfl (lv_at hl 1 rfl) ?_
    refine lv_iload hx hb dX1_reads_27 (lv_at hl 0 rfl) ?_
    refine lv_iconst (v := (-1)) hx hb dX1_reads_29 (by decide) ?_
    refine k_callVi (As := [.int (ct ((5 * w) + i)), .int (-1)]) (rest := []) ⟨hx, hb, hml, hown, hts⟩ (c_X1_nearest l D cI cZ q th sh sp ld nm nk tx mn ds ct co st at0 ha tk (ct ((5 * w) + i)) 8 (Nat.le_refl 8)) (cwV 2 hts gX1_reads_X1_nearest rfl rfl rfl (by decide +kernel) ⟨Nat.le_of_ble_eq_true rfl, Nat.le_of_ble_eq_true rfl⟩) k_B_bl (k_B_of hP hK) (va_recv hK hP (ci := 1) (q0 := 0) rfl rfl) rfl hl.1 rfl (Nat.le_of_ble_eq_true rfl) dX1_reads_30 ⟨Nat.zero_le _, Nat.zero_le _⟩ ?_
    refine lv_istore (lv' := [(5, .int (ix (nrN (dR sh (ct ((5 * w) + i))) 8 8))), (4, .int (ct ((5 * w) + i))), (0, .ref (q 0)), (1, .int (nI w)), (2, .int (nI (rrN (rdR sh ct ds w) i))), (3, .int (nI i))]) hx hb dX1_reads_33 hl (by decide) rfl (fun ls hl => ?_)
    refine lv_aload_n hx hb dX1_reads_35 rfl (lv_at hl 2 rfl) ?_
    refine lv_iload hx hb dX1_reads_36 (lv_at hl 1 rfl) ?_
    refine lv_iload hx hb dX1_reads_38 (lv_at hl 0 rfl) ?_
    refine k_callVi (As := [.int (ct ((5 * w) + i)), .int (ix (nrN (dR sh (ct ((5 * w) + i))) 8 8))]) (rest := []) ⟨hx, hb, hml, hown, hts⟩ (c_X1_nearest l D cI cZ q th sh sp ld nm nk tx mn ds ct co st at0 ha tk (ct ((5 * w) + i)) (nrN (dR sh (ct ((5 * w) + i))) 8 8) (Nat.le_of_lt (nr_lt8 _ _))) (cwV 2 hts gX1_reads_X1_nearest rfl rfl rfl (by decide +kernel) ⟨Nat.le_of_ble_eq_true rfl, Nat.le_of_ble_eq_true rfl⟩) k_B_bl (k_B_of hP hK) (va_recv hK hP (ci := 1) (q0 := 0) rfl rfl) rfl hl.1 rfl (Nat.le_of_ble_eq_true rfl) dX1_reads_40 ⟨Nat.zero_le _, Nat.zero_le _⟩ ?_
    refine lv_istore (lv' := [(6, .int (ix (nrN (dR sh (ct ((5 * w) + i))) (nrN (dR sh (ct ((5 * w) + i))) 8 8) 8))), (5, .int (ix (nrN (dR sh (ct ((5 * w) + i))) 8 8))), (4, .int (ct ((5 * w) + i))), (0, .ref (q 0)), (1, .int (nI w)), (2, .int (nI (rrN (rdR sh ct ds w) i))), (3, .int (nI i))]) hx hb dX1_reads_43 hl (by decide) rfl (fun ls hl => ?_)
    refine lv_aload_n hx hb dX1_reads_45 rfl (lv_at hl 3 rfl) ?_
    refine va_get (D := D) (ci := 1) (v := .ref (q 1)) (C := RX1) (T := TX1) (N := 15) hx hb hts hin hown hK hP 0 rfl rfl 1 (by decide) (hts (.fieldLink RX1 7 "SignRailModel" "shapes" "[I") (by decide +kernel)) (fun _ h9 => h9) rfl dX1_reads_46 ?_
    refine lv_iload hx hb dX1_reads_49 (lv_at hl 0 rfl) ?_
    refine lv_as (y := nI (nrN (dR sh (ct (5 * w + i))) (nrN (dR sh (ct (5 * w + i))) 8 8) 8)) (ix_lt (nr_lt8 _ _)) ?_
    refine n_iald hx hb hK hP 1 0 rfl rfl (k := (nrN (dR sh (ct (5 * w + i))) (nrN (dR sh (ct (5 * w + i))) 8 8) 8)) (nr_lt8 _ _) (Nat.le_of_ble_eq_true rfl) dX1_reads_51 ?_
    refine lv_iload hx hb dX1_reads_52 (lv_at hl 2 rfl) ?_
    refine lv_ixor hx hb dX1_reads_54 ?_
    refine k_callSi (As := [.int ((sh (nrN (dR sh (ct (5 * w + i))) (nrN (dR sh (ct (5 * w + i))) 8 8) 8)) ^^^ (ct ((5 * w) + i)))]) (rest := []) ⟨hx, hb, hml, hown, hts⟩ (c_X1_bits l ((sh (nrN (dR sh (ct (5 * w + i))) (nrN (dR sh (ct (5 * w + i))) 8 8) 8)) ^^^ (ct ((5 * w) + i)))) (va_cwS 1 hts gX1_reads_X1_bits rfl rfl rfl (by decide +kernel) ⟨Nat.le_of_ble_eq_true rfl, Nat.le_of_ble_eq_true rfl⟩) k_bl_tt (fun _ _ _ => trivial) rfl hl.1 rfl (Nat.le_of_ble_eq_true rfl) dX1_reads_55 ⟨Nat.zero_le _, Nat.zero_le _⟩ ?_
    refine lv_as (y := df (sh (nrN (dR sh (ct (5 * w + i))) (nrN (dR sh (ct (5 * w + i))) 8 8) 8)) (ct (5 * w + i))) (rfl) ?_
    refine lv_aload_n hx hb dX1_reads_58 rfl (lv_at hl 3 rfl) ?_
    refine va_get (D := D) (ci := 1) (v := .ref (q 1)) (C := RX1) (T := TX1) (N := 15) hx hb hts hin hown hK hP 0 rfl rfl 1 (by decide) (hts (.fieldLink RX1 7 "SignRailModel" "shapes" "[I") (by decide +kernel)) (fun _ h9 => h9) rfl dX1_reads_59 ?_
    refine lv_iload hx hb dX1_reads_62 (lv_at hl 1 rfl) ?_
    refine lv_as (y := nI (nrN (dR sh (ct (5 * w + i))) 8 8)) (ix_lt (nr_lt8 _ _)) ?_
    refine n_iald hx hb hK hP 1 0 rfl rfl (k := (nrN (dR sh (ct (5 * w + i))) 8 8)) (nr_lt8 _ _) (Nat.le_of_ble_eq_true rfl) dX1_reads_64 ?_
    refine lv_iload hx hb dX1_reads_65 (lv_at hl 2 rfl) ?_
    refine lv_ixor hx hb dX1_reads_67 ?_
    refine k_callSi (As := [.int ((sh (nrN (dR sh (ct (5 * w + i))) 8 8)) ^^^ (ct ((5 * w) + i)))]) (rest := [.int (df (sh (nrN (dR sh (ct (5 * w + i))) (nrN (dR sh (ct (5 * w + i))) 8 8) 8)) (ct (5 * w + i)))]) ⟨hx, hb, hml, hown, hts⟩ (c_X1_bits l ((sh (nrN (dR sh (ct (5 * w + i))) 8 8)) ^^^ (ct ((5 * w) + i)))) (va_cwS 1 hts gX1_reads_X1_bits rfl rfl rfl (by decide +kernel) ⟨Nat.le_of_ble_eq_true rfl, Nat.le_of_ble_eq_true rfl⟩) k_bl_tt (fun _ _ _ => trivial) rfl hl.1 rfl (Nat.le_of_ble_eq_true rfl) dX1_reads_68 ⟨Nat.zero_le _, Nat.zero_le _⟩ ?_
    refine lv_as (y := df (sh (nrN (dR sh (ct (5 * w + i))) 8 8)) (ct (5 * w + i))) (rfl) ?_
    refine lv_isub hx hb dX1_reads_71 ?_
    refine lv_aload_n hx hb dX1_reads_72 rfl (lv_at hl 3 rfl) ?_
    refine va_get (D := D) (ci := 1) (v := .ref (q 8)) (C := RX1) (T := TX1) (N := 15) hx hb hts hin hown hK hP 0 rfl rfl 8 (by decide) (hts (.fieldLink RX1 31 "SignRailModel" "distances" "[I") (by decide +kernel)) (fun _ h9 => h9) rfl dX1_reads_73 ?_
    refine lv_iload_n hx hb dX1_reads_76 rfl (lv_at hl 4 rfl) ?_
    refine n_iald hx hb hK hP 8 0 rfl rfl (k := w) (by omega) (Nat.le_of_ble_eq_true rfl) dX1_reads_77 ?_
    refine lv_icmp_lt (tgt := 85) hx hb dX1_reads_78 (by decide) (fun c_78 => ?_) (fun c_78 => ?_)
    · refine lv_iconst (v := nI 0) hx hb dX1_reads_85 (by decide) ?_
      refine lv_istore (lv' := [(7, .int (nI 0)), (6, .int (ix (nrN (dR sh (ct ((5 * w) + i))) (nrN (dR sh (ct ((5 * w) + i))) 8 8) 8))), (5, .int (ix (nrN (dR sh (ct ((5 * w) + i))) 8 8))), (4, .int (ct ((5 * w) + i))), (0, .ref (q 0)), (1, .int (nI w)), (2, .int (nI (rrN (rdR sh ct ds w) i))), (3, .int (nI i))]) hx hb dX1_reads_86 hl (by decide) rfl (fun ls hl => ?_)
      refine lv_bipush (v := nI 8) hx hb dX1_reads_88 (by decide) ?_
      refine lv_iload_n hx hb dX1_reads_90 rfl (lv_at hl 6 rfl) ?_
      refine lv_imul hx hb dX1_reads_91 ?_
      refine lv_as (y := nI (8 * (rrN (rdR sh ct ds w) i))) (pk_mul _ _) ?_
      refine lv_iload hx hb dX1_reads_92 (lv_at hl 0 rfl) ?_
      refine n_if_eq (tgt := 102) hx hb dX1_reads_94 (by decide) (by decide) (fun _ => ?_) (fun c_94 => absurd c_94 (by decide))
      refine lv_iload hx hb dX1_reads_102 (lv_at hl 1 rfl) ?_
      refine lv_as (y := nI (rdG (dR sh (ct (5 * w + i))) (ds w))) ((ix_lt (nr_lt8 _ _)).trans (congrArg nI (if_pos c_78).symm)) ?_
      refine lv_iadd hx hb dX1_reads_104 ?_
      refine lv_as (y := nI (rrN (rdR sh ct ds w) (i + 1))) (nI_add _ _) ?_
      refine lv_istore_n (lv' := [(2, .int (nI (rrN (rdR sh ct ds w) (i + 1)))), (7, .int (nI 0)), (6, .int (ix (nrN (dR sh (ct ((5 * w) + i))) (nrN (dR sh (ct ((5 * w) + i))) 8 8) 8))), (5, .int (ix (nrN (dR sh (ct ((5 * w) + i))) 8 8))), (4, .int (ct ((5 * w) + i))), (0, .ref (q 0)), (1, .int (nI w)), (3, .int (nI i))]) hx hb dX1_reads_105 rfl hl (by decide) rfl (fun ls hl => ?_)
      refine lv_iinc (v := nI (i + 1)) (lv' := [(3, .int (nI (i + 1))), (2, .int (nI (rrN (rdR sh ct ds w) (i + 1)))), (7, .int (nI 0)), (6, .int (ix (nrN (dR sh (ct ((5 * w) + i))) (nrN (dR sh (ct ((5 * w) + i))) 8 8) 8))), (5, .int (ix (nrN (dR sh (ct ((5 * w) + i))) 8 8))), (4, .int (ct ((5 * w) + i))), (0, .ref (q 0)), (1, .int (nI w))]) hx hb dX1_reads_106 hl (k := 7) rfl (nI_inc _) (by decide) rfl (fun ls hl => ?_)
      refine lv_goto (tgt := 4) hx hb dX1_reads_109 (by decide) ?_
      exact ih_4 _ (by omega) (lv_sub hl [6, 7, 1, 0] rfl)
    · refine lv_iconst (v := nI 1) hx hb dX1_reads_81 (by decide) ?_
      refine lv_goto (tgt := 86) hx hb dX1_reads_82 (by decide) ?_
      refine lv_istore (lv' := [(7, .int (nI 1)), (6, .int (ix (nrN (dR sh (ct ((5 * w) + i))) (nrN (dR sh (ct ((5 * w) + i))) 8 8) 8))), (5, .int (ix (nrN (dR sh (ct ((5 * w) + i))) 8 8))), (4, .int (ct ((5 * w) + i))), (0, .ref (q 0)), (1, .int (nI w)), (2, .int (nI (rrN (rdR sh ct ds w) i))), (3, .int (nI i))]) hx hb dX1_reads_86 hl (by decide) rfl (fun ls hl => ?_)
      refine lv_bipush (v := nI 8) hx hb dX1_reads_88 (by decide) ?_
      refine lv_iload_n hx hb dX1_reads_90 rfl (lv_at hl 6 rfl) ?_
      refine lv_imul hx hb dX1_reads_91 ?_
      refine lv_as (y := nI (8 * (rrN (rdR sh ct ds w) i))) (pk_mul _ _) ?_
      refine lv_iload hx hb dX1_reads_92 (lv_at hl 0 rfl) ?_
      refine n_if_eq (tgt := 102) hx hb dX1_reads_94 (by decide) (by decide) (fun c_94 => absurd c_94 (by decide)) (fun _ => ?_)
      refine lv_iload hx hb dX1_reads_97 (lv_at hl 2 rfl) ?_
      refine lv_as (y := nI (rdG (dR sh (ct (5 * w + i))) (ds w))) ((ix_lt (nr_lt8 _ _)).trans (congrArg nI (if_neg c_78).symm)) ?_
      refine lv_goto (tgt := 104) hx hb dX1_reads_99 (by decide) ?_
      refine lv_iadd hx hb dX1_reads_104 ?_
      refine lv_as (y := nI (rrN (rdR sh ct ds w) (i + 1))) (nI_add _ _) ?_
      refine lv_istore_n (lv' := [(2, .int (nI (rrN (rdR sh ct ds w) (i + 1)))), (7, .int (nI 1)), (6, .int (ix (nrN (dR sh (ct ((5 * w) + i))) (nrN (dR sh (ct ((5 * w) + i))) 8 8) 8))), (5, .int (ix (nrN (dR sh (ct ((5 * w) + i))) 8 8))), (4, .int (ct ((5 * w) + i))), (0, .ref (q 0)), (1, .int (nI w)), (3, .int (nI i))]) hx hb dX1_reads_105 rfl hl (by decide) rfl (fun ls hl => ?_)
      refine lv_iinc (v := nI (i + 1)) (lv' := [(3, .int (nI (i + 1))), (2, .int (nI (rrN (rdR sh ct ds w) (i + 1)))), (7, .int (nI 1)), (6, .int (ix (nrN (dR sh (ct ((5 * w) + i))) (nrN (dR sh (ct ((5 * w) + i))) 8 8) 8))), (5, .int (ix (nrN (dR sh (ct ((5 * w) + i))) 8 8))), (4, .int (ct ((5 * w) + i))), (0, .ref (q 0)), (1, .int (nI w))]) hx hb dX1_reads_106 hl (k := 7) rfl (nI_inc _) (by decide) rfl (fun ls hl => ?_)
      refine lv_goto (tgt := 4) hx hb dX1_reads_109 (by decide) ?_
      exact ih_4 _ (by omega) (lv_sub hl [6, 7, 1, 0] rfl)
set_option maxHeartbeats 4000000 in
set_option maxRecDepth 100000 in
theorem c_X1_takes (l : Launch) (D : va_G) (cI cZ : ClassId) (q : Nat → Nat) (th : Int32) (sh sp ld nm nk tx mn ds ct : Nat → Int32) (co : Int64) (st at0 ha : Int32) (tk : Nat → Int32) (p0 : Nat) (hp : p0 < 8) (gt gk : Nat) (hgt : gt < 32768) (hgk : gk ≤ 5) (tB : Nat → Bool) (hTk : ∀ w, w < 32 → tk w = bI (tB w)) (K Ld : Nat → Nat) (hS : ∀ w, w < 32 → K w ≤ 5 ∧ mn w = nI (K w)) (hL : ∀ w, w < 32 → Ld w ≤ 8 ∧ ld w = ix (Ld w)) : k_M l yX1_takes wsX1_takes ({ frames := 3, cells := 0, slots := 0, locals := 74 } : Room) [.ref (q 0), .int (nI p0), .int (nI gt), .int (nI gk)] (k_B D (wm cI cZ q th sh sp ld nm nk tx mn ds ct co st at0 ha tk) [(cI, .int), (cZ, .boolean)]) (some (.int (wv p0 (nx (toldR sh ct ds K gk gt) Ld tB p0)))) := by
  refine k_head (cc := cX1_takes) (maxL := 8) (ret := some .int) [(0, .ref (q 0)), (1, .int (nI p0)), (2, .int (nI gt)), (3, .int (nI gk))] (by decide) rfl (Nat.le_of_ble_eq_true rfl) rfl ?_
  intro p e s m below meth c ls hx hb hr hml hown hts hlocks hname hB hl
  have hown : s.vm.findClass RX1 = some m.cls := hown
  obtain ⟨hP, hK⟩ := hB
  have hin : ∀ w ∈ wsX10, w ∈ wsX1_takes := fun w h => List.mem_cons_of_mem _ (List.mem_append_right _ h)
  refine lv_iconst (v := (-1)) hx hb dX1_takes_0 (by decide) ?_
  refine lv_istore (lv' := [(4, .int (-1)), (0, .ref (q 0)), (1, .int (nI p0)), (2, .int (nI gt)), (3, .int (nI gk))]) hx hb dX1_takes_1 hl (by decide) rfl (fun ls hl => ?_)
  refine lv_iconst (v := (-1)) hx hb dX1_takes_3 (by decide) ?_
  refine lv_istore (lv' := [(5, .int (-1)), (4, .int (-1)), (0, .ref (q 0)), (1, .int (nI p0)), (2, .int (nI gt)), (3, .int (nI gk))]) hx hb dX1_takes_4 hl (by decide) rfl (fun ls hl => ?_)
  refine lv_iconst (v := nI 4) hx hb dX1_takes_6 (by decide) ?_
  refine lv_iload_n hx hb dX1_takes_7 rfl (lv_at hl 3 rfl) ?_
  refine lv_imul hx hb dX1_takes_8 ?_
  refine lv_as (y := nI (4 * p0)) (pk_mul _ _) ?_
  refine lv_iconst (v := nI 4) hx hb dX1_takes_9 (by decide) ?_
  refine lv_iadd hx hb dX1_takes_10 ?_
  refine lv_as (y := nI ((4 * p0) + 4)) (nI_add _ _) ?_
  refine lv_iconst (v := nI 1) hx hb dX1_takes_11 (by decide) ?_
  refine lv_isub hx hb dX1_takes_12 ?_
  refine lv_istore (lv' := [(6, .int ((nI ((4 * p0) + 4)) - (nI 1))), (5, .int (-1)), (4, .int (-1)), (0, .ref (q 0)), (1, .int (nI p0)), (2, .int (nI gt)), (3, .int (nI gk))]) hx hb dX1_takes_13 hl (by decide) rfl (fun ls hl => ?_)
  refine W.loop (fun i ls => ∃ (u4 : Int32) (u5 : Int32), (u4 = wv p0 (gb (fun e => decide (Ld (4 * p0 + e) ≠ 8) && !tB (4 * p0 + e)) i)) ∧ (u5 = wv p0 (gb (fun e => decide (Ld (4 * p0 + e) ≠ 8) && (toldR sh ct ds K gk gt) (4 * p0 + e)) i)) ∧ lv_has ls 8 [(0, .ref (q 0)), (1, .int (nI p0)), (2, .int (nI gt)), (3, .int (nI gk)), (4, .int u4), (5, .int u5), (6, .int (nI (4 * p0 + (4 - i)) - nI 1))]) (4) (0) (by omega) ⟨(-1), (-1), rfl, rfl, lv_sub hl [3, 4, 5, 6, 2, 1, 0] rfl⟩ ?_
  intro i ls hi_15 hI_15 ih_15
  obtain ⟨u4, u5, hf0_15, hf1_15, hl⟩ := hI_15
  refine lv_iload hx hb dX1_takes_15 (lv_at hl 6 rfl) ?_
  refine lv_iconst (v := nI 4) hx hb dX1_takes_17 (by decide) ?_
  refine lv_iload_n hx hb dX1_takes_18 rfl (lv_at hl 1 rfl) ?_
  refine lv_imul hx hb dX1_takes_19 ?_
  refine lv_as (y := nI (4 * p0)) (pk_mul _ _) ?_
  refine lv_icmp_lt (tgt := 106) hx hb dX1_takes_20 (by decide) (fun c_20 => ?_) (fun c_20 => ?_)
  · refine lv_iload hx hb dX1_takes_106 (lv_at hl 5 rfl) ?_
    refine lv_iconst (v := (-1)) hx hb dX1_takes_108 (by decide) ?_
    refine lv_icmp_eq (tgt := 117) hx hb dX1_takes_109 (by decide) (fun c_109 => ?_) (fun c_109 => ?_)
    · refine lv_iload hx hb dX1_takes_117 (lv_at hl 4 rfl) ?_
      have h4 : i = 4 := (sg_lt p0 hp i (by omega)).mp c_20
      subst h4
      exact k_iret hx hb hr hlocks dX1_takes_119 (by rw [hf1_15] at c_109; rw [hf0_15, nx, nxE, ← gb_fb, ← gb_fb, if_pos ((wv_m1 hp (gb_le _ 4 (Nat.le_refl 4))).mp c_109)])
    · refine lv_iload hx hb dX1_takes_112 (lv_at hl 5 rfl) ?_
      refine lv_goto (tgt := 119) hx hb dX1_takes_114 (by decide) ?_
      have h4 : i = 4 := (sg_lt p0 hp i (by omega)).mp c_20
      subst h4
      exact k_iret hx hb hr hlocks dX1_takes_119 (by rw [hf1_15] at c_109 ⊢; rw [nx, nxE, ← gb_fb, if_neg (fun q => c_109 ((wv_m1 hp (gb_le _ 4 (Nat.le_refl 4))).mpr q))])
  · have hi4 : i < 4 := Nat.lt_of_le_of_ne hi_15 (fun q => c_20 ((sg_lt p0 hp i (by omega)).mpr q))
    rw [sg_eq p0 hp i hi4] at hl
    refine lv_aload_n hx hb dX1_takes_23 rfl (lv_at hl 0 rfl) ?_
    refine va_get (D := D) (ci := 1) (v := .ref (q 3)) (C := RX1) (T := TX1) (N := 15) hx hb hts hin hown hK hP 0 rfl rfl 3 (by decide) (hts (.fieldLink RX1 16 "SignRailModel" "leads" "[I") (by decide +kernel)) (fun _ h9 => h9) rfl dX1_takes_24 ?_
    refine lv_iload hx hb dX1_takes_27 (lv_at hl 6 rfl) ?_
    refine n_iald hx hb hK hP 3 0 rfl rfl (k := (4 * p0 + (3 - i))) (by omega) (Nat.le_of_ble_eq_true rfl) dX1_takes_29 ?_
    refine lv_as (y := ix (Ld (4 * p0 + (3 - i)))) ((hL _ (by omega)).2) ?_
    refine lv_iconst (v := (-1)) hx hb dX1_takes_30 (by decide) ?_
    refine lv_icmp_eq (tgt := 38) hx hb dX1_takes_31 (by decide) (fun c_31 => ?_) (fun c_31 => ?_)
    · have hl8 := (ix_m1 (hL _ (by omega)).1).mp c_31
      refine lv_iconst (v := nI 0) hx hb dX1_takes_38 (by decide) ?_
      refine lv_istore (lv' := [(7, .int (nI 0)), (0, .ref (q 0)), (1, .int (nI p0)), (2, .int (nI gt)), (3, .int (nI gk)), (4, .int u4), (5, .int u5), (6, .int (nI (4 * p0 + (3 - i))))]) hx hb dX1_takes_39 hl (by decide) rfl (fun ls hl => ?_)
      refine lv_iload hx hb dX1_takes_41 (lv_at hl 0 rfl) ?_
      refine n_if_eq (tgt := 61) hx hb dX1_takes_43 (by decide) (by decide) (fun _ => ?_) (fun c_43 => absurd c_43 (by decide))
      refine lv_iload hx hb dX1_takes_61 (lv_at hl 5 rfl) ?_
      refine lv_istore (lv' := [(4, .int u4), (7, .int (nI 0)), (0, .ref (q 0)), (1, .int (nI p0)), (2, .int (nI gt)), (3, .int (nI gk)), (5, .int u5), (6, .int (nI (4 * p0 + (3 - i))))]) hx hb dX1_takes_63 hl (by decide) rfl (fun ls hl => ?_)
      refine lv_iload hx hb dX1_takes_65 (lv_at hl 1 rfl) ?_
      refine n_if_eq (tgt := 96) hx hb dX1_takes_67 (by decide) (by decide) (fun _ => ?_) (fun c_67 => absurd c_67 (by decide))
      refine lv_iload hx hb dX1_takes_96 (lv_at hl 6 rfl) ?_
      refine lv_istore (lv' := [(5, .int u5), (4, .int u4), (7, .int (nI 0)), (0, .ref (q 0)), (1, .int (nI p0)), (2, .int (nI gt)), (3, .int (nI gk)), (6, .int (nI (4 * p0 + (3 - i))))]) hx hb dX1_takes_98 hl (by decide) rfl (fun ls hl => ?_)
      refine lv_iinc (v := nI (4 * p0 + (4 - (i + 1))) - nI 1) (lv' := [(6, .int (nI (4 * p0 + (4 - (i + 1))) - nI 1)), (5, .int u5), (4, .int u4), (7, .int (nI 0)), (0, .ref (q 0)), (1, .int (nI p0)), (2, .int (nI gt)), (3, .int (nI gk))]) hx hb dX1_takes_100 hl (k := 7) rfl (sg_dec p0 hp i hi4) (by decide) rfl (fun ls hl => ?_)
      refine lv_goto (tgt := 15) hx hb dX1_takes_103 (by decide) ?_
      exact ih_15 _ (by omega) ⟨u4, u5, by rw [gb_f (by simp [hl8])]; exact hf0_15, by rw [gb_f (by simp [hl8])]; exact hf1_15, lv_sub hl [4, 5, 6, 7, 2, 1, 0] rfl⟩
    · have hl8 : Ld (4 * p0 + (3 - i)) ≠ 8 := fun q => c_31 ((ix_m1 (hL _ (by omega)).1).mpr q)
      refine lv_iconst (v := nI 1) hx hb dX1_takes_34 (by decide) ?_
      refine lv_goto (tgt := 39) hx hb dX1_takes_35 (by decide) ?_
      refine lv_istore (lv' := [(7, .int (nI 1)), (0, .ref (q 0)), (1, .int (nI p0)), (2, .int (nI gt)), (3, .int (nI gk)), (4, .int u4), (5, .int u5), (6, .int (nI (4 * p0 + (3 - i))))]) hx hb dX1_takes_39 hl (by decide) rfl (fun ls hl => ?_)
      refine lv_iload hx hb dX1_takes_41 (lv_at hl 0 rfl) ?_
      refine n_if_eq (tgt := 61) hx hb dX1_takes_43 (by decide) (by decide) (fun c_43 => absurd c_43 (by decide)) (fun _ => ?_)
      refine lv_aload_n hx hb dX1_takes_46 rfl (lv_at hl 1 rfl) ?_
      refine va_get (D := D) (ci := 1) (v := .ref (q 10)) (C := RX1) (T := TX1) (N := 15) hx hb hts hin hown hK hP 0 rfl rfl 14 (by decide) (hts (.fieldLink RX1 37 "SignRailModel" "isTaken" "[Z") (by decide +kernel)) (fun _ h9 => h9) rfl dX1_takes_47 ?_
      refine lv_iload hx hb dX1_takes_50 (lv_at hl 7 rfl) ?_
      refine n_zald hx hb hK hP 10 1 rfl rfl (k := (4 * p0 + (3 - i))) (by omega) (Nat.le_of_ble_eq_true rfl) dX1_takes_52 ?_
      refine lv_as (y := bI (tB (4 * p0 + (3 - i)))) (hTk _ (by omega)) ?_
      refine b_if_ne (tgt := 61) hx hb dX1_takes_53 (by decide) (fun c_53 => ?_) (fun c_53 => ?_)
      · refine lv_iload hx hb dX1_takes_61 (lv_at hl 5 rfl) ?_
        refine lv_istore (lv' := [(4, .int u4), (7, .int (nI 1)), (0, .ref (q 0)), (1, .int (nI p0)), (2, .int (nI gt)), (3, .int (nI gk)), (5, .int u5), (6, .int (nI (4 * p0 + (3 - i))))]) hx hb dX1_takes_63 hl (by decide) rfl (fun ls hl => ?_)
        refine lv_iload hx hb dX1_takes_65 (lv_at hl 1 rfl) ?_
        refine n_if_eq (tgt := 96) hx hb dX1_takes_67 (by decide) (by decide) (fun c_67 => absurd c_67 (by decide)) (fun _ => ?_)
        refine lv_aload_n hx hb dX1_takes_70 rfl (lv_at hl 2 rfl) ?_
        refine va_get (D := D) (ci := 1) (v := .ref (q 7)) (C := RX1) (T := TX1) (N := 15) hx hb hts hin hown hK hP 0 rfl rfl 7 (by decide) (hts (.fieldLink RX1 28 "SignRailModel" "many" "[I") (by decide +kernel)) (fun _ h9 => h9) rfl dX1_takes_71 ?_
        refine lv_iload hx hb dX1_takes_74 (lv_at hl 7 rfl) ?_
        refine n_iald hx hb hK hP 7 0 rfl rfl (k := (4 * p0 + (3 - i))) (by omega) (Nat.le_of_ble_eq_true rfl) dX1_takes_76 ?_
        refine lv_as (y := nI (K (4 * p0 + (3 - i)))) ((hS _ (by omega)).2) ?_
        refine lv_iload_n hx hb dX1_takes_77 rfl (lv_at hl 5 rfl) ?_
        refine n_icmp_ne (tgt := 96) hx hb dX1_takes_78 (by decide) (by have := (hS (4 * p0 + (3 - i)) (by omega)).1; omega) (by omega) (fun c_78 => ?_) (fun c_78 => ?_)
        · refine lv_iload hx hb dX1_takes_96 (lv_at hl 6 rfl) ?_
          refine lv_istore (lv' := [(5, .int u5), (4, .int u4), (7, .int (nI 1)), (0, .ref (q 0)), (1, .int (nI p0)), (2, .int (nI gt)), (3, .int (nI gk)), (6, .int (nI (4 * p0 + (3 - i))))]) hx hb dX1_takes_98 hl (by decide) rfl (fun ls hl => ?_)
          refine lv_iinc (v := nI (4 * p0 + (4 - (i + 1))) - nI 1) (lv' := [(6, .int (nI (4 * p0 + (4 - (i + 1))) - nI 1)), (5, .int u5), (4, .int u4), (7, .int (nI 1)), (0, .ref (q 0)), (1, .int (nI p0)), (2, .int (nI gt)), (3, .int (nI gk))]) hx hb dX1_takes_100 hl (k := 7) rfl (sg_dec p0 hp i hi4) (by decide) rfl (fun ls hl => ?_)
          refine lv_goto (tgt := 15) hx hb dX1_takes_103 (by decide) ?_
          exact ih_15 _ (by omega) ⟨u4, u5, by rw [gb_f (by simp [c_53])]; exact hf0_15, by rw [gb_f (by simp [rdasR, c_78])]; exact hf1_15, lv_sub hl [4, 5, 6, 7, 2, 1, 0] rfl⟩
        · refine lv_aload_n hx hb dX1_takes_81 rfl (lv_at hl 2 rfl) ?_
          refine lv_iload hx hb dX1_takes_82 (lv_at hl 7 rfl) ?_
          have hrr := rrN_lt (r := rdR sh ct ds (4 * p0 + (3 - i))) (fun _ => rdG_lt _ _) (K (4 * p0 + (3 - i)))
          have hp8 := p8_le (k := K (4 * p0 + (3 - i))) (hS _ (by omega)).1
          refine k_callVi (As := [.int (nI (4 * p0 + (3 - i)))]) (rest := []) ⟨hx, hb, hml, hown, hts⟩ (c_X1_reads l D cI cZ q th sh sp ld nm nk tx mn ds ct co st at0 ha tk (4 * p0 + (3 - i)) (K (4 * p0 + (3 - i))) (by omega) (hS _ (by omega)).1 (hS _ (by omega)).2) (cwV 1 hts gX1_takes_X1_reads rfl rfl rfl (by decide +kernel) ⟨Nat.le_of_ble_eq_true rfl, Nat.le_of_ble_eq_true rfl⟩) k_B_bl (k_B_of hP hK) (va_recv hK hP (ci := 1) (q0 := 0) rfl rfl) rfl hl.1 rfl (Nat.le_of_ble_eq_true rfl) dX1_takes_84 ⟨Nat.zero_le _, Nat.zero_le _⟩ ?_
          refine lv_iload_n hx hb dX1_takes_87 rfl (lv_at hl 4 rfl) ?_
          refine n_icmp_ne (tgt := 96) hx hb dX1_takes_88 (by decide) (by omega) (by omega) (fun c_88 => ?_) (fun c_88 => ?_)
          · have hrd : rdasR sh ct ds (4 * p0 + (3 - i)) (K (4 * p0 + (3 - i))) gk gt = false := decide_eq_false (fun q => c_88 q.2)
            refine lv_iload hx hb dX1_takes_96 (lv_at hl 6 rfl) ?_
            refine lv_istore (lv' := [(5, .int u5), (4, .int u4), (7, .int (nI 1)), (0, .ref (q 0)), (1, .int (nI p0)), (2, .int (nI gt)), (3, .int (nI gk)), (6, .int (nI (4 * p0 + (3 - i))))]) hx hb dX1_takes_98 hl (by decide) rfl (fun ls hl => ?_)
            refine lv_iinc (v := nI (4 * p0 + (4 - (i + 1))) - nI 1) (lv' := [(6, .int (nI (4 * p0 + (4 - (i + 1))) - nI 1)), (5, .int u5), (4, .int u4), (7, .int (nI 1)), (0, .ref (q 0)), (1, .int (nI p0)), (2, .int (nI gt)), (3, .int (nI gk))]) hx hb dX1_takes_100 hl (k := 7) rfl (sg_dec p0 hp i hi4) (by decide) rfl (fun ls hl => ?_)
            refine lv_goto (tgt := 15) hx hb dX1_takes_103 (by decide) ?_
            exact ih_15 _ (by omega) ⟨u4, u5, by rw [gb_f (by simp [c_53])]; exact hf0_15, by rw [gb_f (by simp [hrd])]; exact hf1_15, lv_sub hl [4, 5, 6, 7, 2, 1, 0] rfl⟩
          · have hrd : rdasR sh ct ds (4 * p0 + (3 - i)) (K (4 * p0 + (3 - i))) gk gt = true := decide_eq_true ⟨c_78, c_88⟩
            refine lv_iload hx hb dX1_takes_91 (lv_at hl 7 rfl) ?_
            refine lv_goto (tgt := 98) hx hb dX1_takes_93 (by decide) ?_
            refine lv_istore (lv' := [(5, .int (nI (4 * p0 + (3 - i)))), (4, .int u4), (7, .int (nI 1)), (0, .ref (q 0)), (1, .int (nI p0)), (2, .int (nI gt)), (3, .int (nI gk)), (6, .int (nI (4 * p0 + (3 - i))))]) hx hb dX1_takes_98 hl (by decide) rfl (fun ls hl => ?_)
            refine lv_iinc (v := nI (4 * p0 + (4 - (i + 1))) - nI 1) (lv' := [(6, .int (nI (4 * p0 + (4 - (i + 1))) - nI 1)), (5, .int (nI (4 * p0 + (3 - i)))), (4, .int u4), (7, .int (nI 1)), (0, .ref (q 0)), (1, .int (nI p0)), (2, .int (nI gt)), (3, .int (nI gk))]) hx hb dX1_takes_100 hl (k := 7) rfl (sg_dec p0 hp i hi4) (by decide) rfl (fun ls hl => ?_)
            refine lv_goto (tgt := 15) hx hb dX1_takes_103 (by decide) ?_
            exact ih_15 _ (by omega) ⟨u4, nI (4 * p0 + (3 - i)), by rw [gb_f (by simp [c_53])]; exact hf0_15, by rw [gb_t (by simp [hl8, hrd])]; exact (wv_lt (by omega)).symm, lv_sub hl [4, 5, 6, 7, 2, 1, 0] rfl⟩
      · refine lv_iload hx hb dX1_takes_56 (lv_at hl 7 rfl) ?_
        refine lv_goto (tgt := 63) hx hb dX1_takes_58 (by decide) ?_
        refine lv_istore (lv' := [(4, .int (nI (4 * p0 + (3 - i)))), (7, .int (nI 1)), (0, .ref (q 0)), (1, .int (nI p0)), (2, .int (nI gt)), (3, .int (nI gk)), (5, .int u5), (6, .int (nI (4 * p0 + (3 - i))))]) hx hb dX1_takes_63 hl (by decide) rfl (fun ls hl => ?_)
        refine lv_iload hx hb dX1_takes_65 (lv_at hl 1 rfl) ?_
        refine n_if_eq (tgt := 96) hx hb dX1_takes_67 (by decide) (by decide) (fun c_67 => absurd c_67 (by decide)) (fun _ => ?_)
        refine lv_aload_n hx hb dX1_takes_70 rfl (lv_at hl 2 rfl) ?_
        refine va_get (D := D) (ci := 1) (v := .ref (q 7)) (C := RX1) (T := TX1) (N := 15) hx hb hts hin hown hK hP 0 rfl rfl 7 (by decide) (hts (.fieldLink RX1 28 "SignRailModel" "many" "[I") (by decide +kernel)) (fun _ h9 => h9) rfl dX1_takes_71 ?_
        refine lv_iload hx hb dX1_takes_74 (lv_at hl 7 rfl) ?_
        refine n_iald hx hb hK hP 7 0 rfl rfl (k := (4 * p0 + (3 - i))) (by omega) (Nat.le_of_ble_eq_true rfl) dX1_takes_76 ?_
        refine lv_as (y := nI (K (4 * p0 + (3 - i)))) ((hS _ (by omega)).2) ?_
        refine lv_iload_n hx hb dX1_takes_77 rfl (lv_at hl 5 rfl) ?_
        refine n_icmp_ne (tgt := 96) hx hb dX1_takes_78 (by decide) (by have := (hS (4 * p0 + (3 - i)) (by omega)).1; omega) (by omega) (fun c_78 => ?_) (fun c_78 => ?_)
        · refine lv_iload hx hb dX1_takes_96 (lv_at hl 6 rfl) ?_
          refine lv_istore (lv' := [(5, .int u5), (4, .int (nI (4 * p0 + (3 - i)))), (7, .int (nI 1)), (0, .ref (q 0)), (1, .int (nI p0)), (2, .int (nI gt)), (3, .int (nI gk)), (6, .int (nI (4 * p0 + (3 - i))))]) hx hb dX1_takes_98 hl (by decide) rfl (fun ls hl => ?_)
          refine lv_iinc (v := nI (4 * p0 + (4 - (i + 1))) - nI 1) (lv' := [(6, .int (nI (4 * p0 + (4 - (i + 1))) - nI 1)), (5, .int u5), (4, .int (nI (4 * p0 + (3 - i)))), (7, .int (nI 1)), (0, .ref (q 0)), (1, .int (nI p0)), (2, .int (nI gt)), (3, .int (nI gk))]) hx hb dX1_takes_100 hl (k := 7) rfl (sg_dec p0 hp i hi4) (by decide) rfl (fun ls hl => ?_)
          refine lv_goto (tgt := 15) hx hb dX1_takes_103 (by decide) ?_
          exact ih_15 _ (by omega) ⟨nI (4 * p0 + (3 - i)), u5, by rw [gb_t (by simp [hl8, c_53])]; exact (wv_lt (by omega)).symm, by rw [gb_f (by simp [rdasR, c_78])]; exact hf1_15, lv_sub hl [4, 5, 6, 7, 2, 1, 0] rfl⟩
        · refine lv_aload_n hx hb dX1_takes_81 rfl (lv_at hl 2 rfl) ?_
          refine lv_iload hx hb dX1_takes_82 (lv_at hl 7 rfl) ?_
          have hrr := rrN_lt (r := rdR sh ct ds (4 * p0 + (3 - i))) (fun _ => rdG_lt _ _) (K (4 * p0 + (3 - i)))
          have hp8 := p8_le (k := K (4 * p0 + (3 - i))) (hS _ (by omega)).1
          refine k_callVi (As := [.int (nI (4 * p0 + (3 - i)))]) (rest := []) ⟨hx, hb, hml, hown, hts⟩ (c_X1_reads l D cI cZ q th sh sp ld nm nk tx mn ds ct co st at0 ha tk (4 * p0 + (3 - i)) (K (4 * p0 + (3 - i))) (by omega) (hS _ (by omega)).1 (hS _ (by omega)).2) (cwV 1 hts gX1_takes_X1_reads rfl rfl rfl (by decide +kernel) ⟨Nat.le_of_ble_eq_true rfl, Nat.le_of_ble_eq_true rfl⟩) k_B_bl (k_B_of hP hK) (va_recv hK hP (ci := 1) (q0 := 0) rfl rfl) rfl hl.1 rfl (Nat.le_of_ble_eq_true rfl) dX1_takes_84 ⟨Nat.zero_le _, Nat.zero_le _⟩ ?_
          refine lv_iload_n hx hb dX1_takes_87 rfl (lv_at hl 4 rfl) ?_
          refine n_icmp_ne (tgt := 96) hx hb dX1_takes_88 (by decide) (by omega) (by omega) (fun c_88 => ?_) (fun c_88 => ?_)
          · have hrd : rdasR sh ct ds (4 * p0 + (3 - i)) (K (4 * p0 + (3 - i))) gk gt = false := decide_eq_false (fun q => c_88 q.2)
            refine lv_iload hx hb dX1_takes_96 (lv_at hl 6 rfl) ?_
            refine lv_istore (lv' := [(5, .int u5), (4, .int (nI (4 * p0 + (3 - i)))), (7, .int (nI 1)), (0, .ref (q 0)), (1, .int (nI p0)), (2, .int (nI gt)), (3, .int (nI gk)), (6, .int (nI (4 * p0 + (3 - i))))]) hx hb dX1_takes_98 hl (by decide) rfl (fun ls hl => ?_)
            refine lv_iinc (v := nI (4 * p0 + (4 - (i + 1))) - nI 1) (lv' := [(6, .int (nI (4 * p0 + (4 - (i + 1))) - nI 1)), (5, .int u5), (4, .int (nI (4 * p0 + (3 - i)))), (7, .int (nI 1)), (0, .ref (q 0)), (1, .int (nI p0)), (2, .int (nI gt)), (3, .int (nI gk))]) hx hb dX1_takes_100 hl (k := 7) rfl (sg_dec p0 hp i hi4) (by decide) rfl (fun ls hl => ?_)
            refine lv_goto (tgt := 15) hx hb dX1_takes_103 (by decide) ?_
            exact ih_15 _ (by omega) ⟨nI (4 * p0 + (3 - i)), u5, by rw [gb_t (by simp [hl8, c_53])]; exact (wv_lt (by omega)).symm, by rw [gb_f (by simp [hrd])]; exact hf1_15, lv_sub hl [4, 5, 6, 7, 2, 1, 0] rfl⟩
          · have hrd : rdasR sh ct ds (4 * p0 + (3 - i)) (K (4 * p0 + (3 - i))) gk gt = true := decide_eq_true ⟨c_78, c_88⟩
            refine lv_iload hx hb dX1_takes_91 (lv_at hl 7 rfl) ?_
            refine lv_goto (tgt := 98) hx hb dX1_takes_93 (by decide) ?_
            refine lv_istore (lv' := [(5, .int (nI (4 * p0 + (3 - i)))), (4, .int (nI (4 * p0 + (3 - i)))), (7, .int (nI 1)), (0, .ref (q 0)), (1, .int (nI p0)), (2, .int (nI gt)), (3, .int (nI gk)), (6, .int (nI (4 * p0 + (3 - i))))]) hx hb dX1_takes_98 hl (by decide) rfl (fun ls hl => ?_)
            refine lv_iinc (v := nI (4 * p0 + (4 - (i + 1))) - nI 1) (lv' := [(6, .int (nI (4 * p0 + (4 - (i + 1))) - nI 1)), (5, .int (nI (4 * p0 + (3 - i)))), (4, .int (nI (4 * p0 + (3 - i)))), (7, .int (nI 1)), (0, .ref (q 0)), (1, .int (nI p0)), (2, .int (nI gt)), (3, .int (nI gk))]) hx hb dX1_takes_100 hl (k := 7) rfl (sg_dec p0 hp i hi4) (by decide) rfl (fun ls hl => ?_)
            refine lv_goto (tgt := 15) hx hb dX1_takes_103 (by decide) ?_
            exact ih_15 _ (by omega) ⟨nI (4 * p0 + (3 - i)), nI (4 * p0 + (3 - i)), by rw [gb_t (by simp [hl8, c_53])]; exact (wv_lt (by omega)).symm, by rw [gb_t (by simp [hl8, hrd])]; exact (wv_lt (by omega)).symm, lv_sub hl [4, 5, 6, 7, 2, 1, 0] rfl⟩
