theorem arrV_cong {cA : ClassId} {n : Nat} {f g : Nat → Value} (h : ∀ j, j < n → f j = g j) : arrV cA n f = arrV cA n g := by
  unfold arrV
  have e : (fun j : Fin n => f j.val) = (fun j : Fin n => g j.val) := funext fun j => h j.val j.isLt
  rw [e]
theorem va_P_one {D : va_G} {cl : List vw_C} {a : Nat} {cA : ClassId} {n : Nat} {f g : Nat → Int32} {H : Heap} (h : va_P D cl [(a, .inl (cA, n, .inl f))] H) (hf : ∀ j, j < n → f j = g j) : va_P D cl [(a, .inl (cA, n, .inl g))] H := by
  intro k q hk
  have hz : k = 0 := by
    have := (List.getElem?_eq_some_iff.mp hk).1
    simp at this
    omega
  subst hz
  cases hk
  have h1 : H[a]? = some (vp_cell cA (n, .inl f)) := h 0 _ rfl
  show H[a]? = some (vp_cell cA (n, .inl g))
  rw [h1, vp_cell_i, vp_cell_i, arrV_cong (fun j hj => by rw [hf j hj])]
theorem k_str {s : State} {args : Array Value} {k : Nat} {tx : String} (h1 : (Cond.stringRef RX0 k tx).before args s = true) (h2 : (Cond.exactly (Term.string RX0 k) "java/lang/String").before args s = true) : ∃ sa, vk_R RX0 k tx sa s := by
  obtain ⟨a, -, -, -, ha, -⟩ := Cond.exactly_spec h2
  exact ⟨a, vk_R.of h1 ha⟩
theorem lwR_0 : lwR z0 (fa_fill (fun _ => -1) z0 32) z0 z0 z0 z0 (nI 0) z0 z0 z0 z0 z0 z0 (fun _ => 0) (fun _ => 0) (fun _ => 0) (fun _ => 8) (fun _ => 0) (fun _ => 0) := by
  refine ⟨fun _ _ => S25_0, fun w hw => ⟨Nat.le_refl _, fa_fill_in hw⟩, fun _ _ => ⟨show 0 < 32768 by decide, show 0 ≤ 5 by decide, rfl, rfl, rfl⟩, fun _ _ => ⟨show 0 ≤ 5 by decide, show 0 < 8 ^ 0 by decide, rfl, rfl, show 0 < 32768 by decide, rfl, fun _ => rfl⟩, fun _ _ j hj => absurd hj (Nat.not_lt_zero _), kp_0 _ _⟩
set_option maxHeartbeats 4000000 in
set_option maxRecDepth 100000 in
theorem whole_start {p : Program} {e : Env} {s : State} {m : MethodId} {below : List Frame} {meth : Method} {c : Code} (l : Launch) (hflags : l.flags = flags0) {b L : Nat} {xs : Nat → Int32} (hL : L ≤ 3584) (C0 : lw_At p s m meth c b L xs) : W p l e room_1 s m #[Value.ref b] below meth c s.heap [] 0 0 (lw_Z below #[Value.ref b] s) (entryFrame m ([Value.ref b] : List Value).toArray 7) := by
  obtain ⟨hx, hb, hr, hml, hown, hts0, hX, hbl, hlocks, hgv⟩ := id C0
  have hst : l.stackTraces = false := by unfold Launch.stackTraces; rw [hflags]; decide +kernel
  have hA : ∀ a : Nat, s.heap.size ≤ a → (fun a : Nat => s.heap.size ≤ a) a := fun _ h => h
  have hts : ∀ w ∈ wsL_law, w.before #[Value.ref b] s = true := fun w h => hts0 w (wsL_law_in w h)
  have hown : s.vm.findClass RL = some m.cls := hown
  have hn := flat_of_before _ hgv
  have hex : k_ex s := by
    refine ⟨vx_Zqof (hts0 _ (by decide +kernel)) (hts0 _ (by decide +kernel)) (hn _ (by decide +kernel)) (fun _ _ h => h), vx_Zqof (hts0 _ (by decide +kernel)) (hts0 _ (by decide +kernel)) (hn _ (by decide +kernel)) (fun _ _ h => h), fun w hw => va_Nw.of (k_nw_ot w hw) (hts0 w ((show ∀ w ∈ k_nw, w ∈ lw_tbl from by decide +kernel) w hw)), ?_⟩
    exact List.forall_mem_cons.mpr ⟨k_str (hts0 (.stringRef RX0 73 "no such space") (by decide +kernel)) (hn (.exactly (.string RX0 73) "java/lang/String") (by decide +kernel)), List.forall_mem_cons.mpr ⟨k_str (hts0 (.stringRef RX0 100 "no such distance") (by decide +kernel)) (hn (.exactly (.string RX0 100) "java/lang/String") (by decide +kernel)), List.forall_mem_cons.mpr ⟨k_str (hts0 (.stringRef RX0 107 "too wide for any plate") (by decide +kernel)) (hn (.exactly (.string RX0 107) "java/lang/String") (by decide +kernel)), List.forall_mem_cons.mpr ⟨k_str (hts0 (.stringRef RX0 129 "no such number of steps") (by decide +kernel)) (hn (.exactly (.string RX0 129) "java/lang/String") (by decide +kernel)), List.forall_mem_cons.mpr ⟨k_str (hts0 (.stringRef RX0 137 "no such glyph") (by decide +kernel)) (hn (.exactly (.string RX0 137) "java/lang/String") (by decide +kernel)), List.forall_mem_cons.mpr ⟨k_str (hts0 (.stringRef RX0 140 "no such place") (by decide +kernel)) (hn (.exactly (.string RX0 140) "java/lang/String") (by decide +kernel)), List.forall_mem_cons.mpr ⟨k_str (hts0 (.stringRef RX0 142 "no such exit") (by decide +kernel)) (hn (.exactly (.string RX0 142) "java/lang/String") (by decide +kernel)), List.forall_mem_cons.mpr ⟨k_str (hts0 (.stringRef RX0 144 "no such number of glyphs") (by decide +kernel)) (hn (.exactly (.string RX0 144) "java/lang/String") (by decide +kernel)), List.forall_mem_cons.mpr ⟨k_str (hts0 (.stringRef RX0 146 "no such text") (by decide +kernel)) (hn (.exactly (.string RX0 146) "java/lang/String") (by decide +kernel)), List.forall_mem_cons.mpr ⟨k_str (hts0 (.stringRef RX0 152 "no such cell") (by decide +kernel)) (hn (.exactly (.string RX0 152) "java/lang/String") (by decide +kernel)), List.forall_mem_cons.mpr ⟨k_str (hts0 (.stringRef RX0 159 "no such line") (by decide +kernel)) (hn (.exactly (.string RX0 159) "java/lang/String") (by decide +kernel)), fun _ h => absurd h List.not_mem_nil⟩⟩⟩⟩⟩⟩⟩⟩⟩⟩⟩
  have hnc : k_nc s := by
    exact List.forall_mem_cons.mpr ⟨va_Nc.of (hn (.not (.castable k_IA k_IO)) (by decide +kernel)), List.forall_mem_cons.mpr ⟨va_Nc.of (hn (.not (.castable k_IS k_IO)) (by decide +kernel)), List.forall_mem_cons.mpr ⟨va_Nc.of (hn (.not (.castable k_IS k_IA)) (by decide +kernel)), List.forall_mem_cons.mpr ⟨va_Nc.of (hn (.not (.castable k_IO k_IA)) (by decide +kernel)), List.forall_mem_cons.mpr ⟨va_Nc.of (hn (.not (.castable k_IO k_IS)) (by decide +kernel)), List.forall_mem_cons.mpr ⟨va_Nc.of (hn (.not (.castable k_IA k_IS)) (by decide +kernel)), fun _ h => absurd h List.not_mem_nil⟩⟩⟩⟩⟩⟩
  obtain ⟨c0, iS0, hKn0⟩ := u_known (C := RX0) (T := TX0) (N := 10) (n := 10) hts inlX0 (hts0 (.instantiable RX0 10) (by decide +kernel))
  obtain ⟨c1, iS1, hKn1⟩ := u_known (C := RX1) (T := TX1) (N := 15) (n := 15) hts inlX1 (hts0 (.instantiable RX1 15) (by decide +kernel))
  obtain ⟨D, hKc⟩ : ∃ D : va_G, ∀ (k : Nat) (q : vw_C), vwCl[k]? = some q → u_Kn s q.1 q.2.1 q.2.2 (D.1 k) (D.2 k) := by
    refine ⟨(fun k => if k = 0 then c0 else c1, fun k => if k = 0 then iS0 else iS1), ?_⟩
    intro k q hq
    match k, hq with
    | 0, hq => cases hq; exact hKn0
    | 1, hq => cases hq; exact hKn1
    | k + 2, hq => simp [vwCl] at hq
  have hS : va_S (fun a : Nat => s.heap.size ≤ a) s.heap s.heap [] := va_S.rf
  have hK : va_K D vwCl [] s := ⟨hKc, fun k q h => by simp at h⟩
  have hP : va_P D vwCl [] s.heap := fun k q h => by simp at h
  have hD : va_D (fun a : Nat => s.heap.size ≤ a) [] := ⟨fun i j p q h => by simp at h, fun k q h => by simp at h⟩
  have hl := lv_entry ([.ref b]) (n := 7) (Nat.le_of_ble_eq_true rfl)
  rw [lg_entry_eq]
  generalize (lg_sl ([.ref b]) ++ List.replicate (7 - (lg_sl ([.ref b])).length) Slot.unset).toArray = ls at hl ⊢
  have hl : lv_has ls 7 [(0, .ref b)] := hl
  refine va_new (ci := 0) (fs := [.null, .null, .null, .null, .null, .null, .null, .long 0, .int 0, .null]) (C := RX0) (T := TX0) (N := 10) hx hb hts inlX0 tyX0 tyX0_ok hown (hts (.classLink RL 8 RX0) (by decide +kernel)) (hts0 (.instantiable RX0 10) (by decide +kernel)) (hts0 (.initialized RX0) (by decide +kernel)) hK hP hD hS hA rfl (fun j hj => by rcases (show j = 0 ∨ j = 1 ∨ j = 2 ∨ j = 3 ∨ j = 4 ∨ j = 5 ∨ j = 6 ∨ j = 7 ∨ j = 8 ∨ j = 9 by omega) with rfl | rfl | rfl | rfl | rfl | rfl | rfl | rfl | rfl | rfl <;> rfl) (Nat.le_of_ble_eq_true rfl) (Nat.le_of_ble_eq_true rfl) dL_law_0 (fun h0 H hP hD hS => ?_)
  have hP : va_P D vwCl (wxF h0) H := hP
  have hD : va_D (fun a : Nat => s.heap.size ≤ a) (wxF h0) := hD
  refine lv_dup hx hb dL_law_3 rfl ?_
  have hFc := va_free (wc := wxF h0) hD hS hA [0] rfl
  have hDc : va_D _ (wxF h0) := hD.sub [0] (by decide) rfl
  have hPc : va_P D vwCl (wxF h0) H := hP.sub [0] rfl
  refine va_callv (va_runI (As := []) (rest := [.ref h0]) ⟨hx, hb, hml, hown, hts⟩ (c_X0_init l D h0 H.size (k_D_tt hDc)) (cwI 0 hts gL_law_X0_init rfl rfl rfl (hts0 (.initialized RX0) (by decide +kernel)) (hts (.methodLink RL 69 yX0_init) (by decide +kernel)) (hts (.instanceMethod yX0_init) (by decide +kernel)) rfl (by decide +kernel) ⟨Nat.le_of_ble_eq_true rfl, Nat.le_of_ble_eq_true rfl⟩) ⟨k_P_bl (fun a U g mk z => ⟨z.1, z.2.1, va_K.moved (u := U) (U := U.calling g mk a) (Vm.Alike.refl U.vm) z.2.2⟩), fun U hU hW => ⟨rfl, by rw [hU], by rw [hU]; exact hPc, va_K.moved hW.alike (hK.sub [] rfl)⟩⟩ rfl rfl hl.1 rfl (lv_room (Nat.le_of_ble_eq_true rfl)) dL_law_4 ⟨Nat.le_of_ble_eq_true rfl, Nat.le_of_ble_eq_true rfl⟩) hS (fun a _ z => hFc a z) hFc (fun u t H1 locs ht hvm hw hB hz1 hk1 hS => ?_)
  obtain ⟨cI, q⟩ := u
  obtain ⟨hP1, hK1, hD1⟩ := hB
  rw [ht] at hP1
  have hK1 := va_K.moved hvm.symm hK1
  have hw : q 0 = h0 := hw
  subst hw
  have hP1 : va_P D vwCl (wx cI q z0 (fa_fill (fun _ => nI 1) z0 64) (fa_fill (fun _ => -1) z0 32) z0 z0 z0 z0 0 (nI 0) z0) H1 := hP1
  have hD1 : va_D _ (wx cI q z0 (fa_fill (fun _ => nI 1) z0 64) (fa_fill (fun _ => -1) z0 32) z0 z0 z0 z0 0 (nI 0) z0) := hD1
  obtain ⟨hP, hD⟩ := va_join (wr := []) (w1 := wx cI q z0 (fa_fill (fun _ => nI 1) z0 64) (fa_fill (fun _ => -1) z0 32) z0 z0 z0 z0 0 (nI 0) z0) hP hD [0] [] rfl rfl (by decide) (by decide) hk1 hFc hP1 hD1
  have hK := hK1
  generalize H1 = H at hP hS ⊢
  have hP : va_P D vwCl (wx cI q z0 (fa_fill (fun _ => nI 1) z0 64) (fa_fill (fun _ => -1) z0 32) z0 z0 z0 z0 0 (nI 0) z0) H := hP
  have hD : va_D (fun a : Nat => s.heap.size ≤ a) (wx cI q z0 (fa_fill (fun _ => nI 1) z0 64) (fa_fill (fun _ => -1) z0 32) z0 z0 z0 z0 0 (nI 0) z0) := hD
  refine lv_astore_n (lv' := [(1, .ref (q 0)), (0, .ref b)]) hx hb dL_law_7 rfl hl (by decide) rfl (fun ls hl => ?_)
  refine va_new (ci := 1) (fs := [.int 0, .null, .null, .null, .null, .null, .null, .null, .null, .null, .long 0, .int 0, .int 0, .int 0, .null]) (C := RX1) (T := TX1) (N := 15) hx hb hts inlX1 tyX1 tyX1_ok hown (hts (.classLink RL 70 RX1) (by decide +kernel)) (hts0 (.instantiable RX1 15) (by decide +kernel)) (hts0 (.initialized RX1) (by decide +kernel)) hK hP hD hS hA rfl (fun j hj => by rcases (show j = 0 ∨ j = 1 ∨ j = 2 ∨ j = 3 ∨ j = 4 ∨ j = 5 ∨ j = 6 ∨ j = 7 ∨ j = 8 ∨ j = 9 ∨ j = 10 ∨ j = 11 ∨ j = 12 ∨ j = 13 ∨ j = 14 by omega) with rfl | rfl | rfl | rfl | rfl | rfl | rfl | rfl | rfl | rfl | rfl | rfl | rfl | rfl | rfl <;> rfl) (Nat.le_of_ble_eq_true rfl) (Nat.le_of_ble_eq_true rfl) dL_law_8 (fun h1 H hP hD hS => ?_)
  have hP : va_P D vwCl (wx cI q z0 (fa_fill (fun _ => nI 1) z0 64) (fa_fill (fun _ => -1) z0 32) z0 z0 z0 z0 0 (nI 0) z0 ++ wmF h1) H := hP
  have hD : va_D (fun a : Nat => s.heap.size ≤ a) (wx cI q z0 (fa_fill (fun _ => nI 1) z0 64) (fa_fill (fun _ => -1) z0 32) z0 z0 z0 z0 0 (nI 0) z0 ++ wmF h1) := hD
  refine lv_dup hx hb dL_law_11 rfl ?_
  have hFc := va_free (wc := wmF h1) hD hS hA [9] rfl
  have hDc : va_D _ (wmF h1) := hD.sub [9] (by decide) rfl
  have hPc : va_P D vwCl (wmF h1) H := hP.sub [9] rfl
  refine va_callv (va_runI (As := []) (rest := [.ref h1]) ⟨hx, hb, hml, hown, hts⟩ (c_X1_init l D h1 H.size (k_D_tt hDc)) (cwI 0 hts gL_law_X1_init rfl rfl rfl (hts0 (.initialized RX1) (by decide +kernel)) (hts (.methodLink RL 72 yX1_init) (by decide +kernel)) (hts (.instanceMethod yX1_init) (by decide +kernel)) rfl (by decide +kernel) ⟨Nat.le_of_ble_eq_true rfl, Nat.le_of_ble_eq_true rfl⟩) ⟨k_P_bl (fun a U g mk z => ⟨z.1, z.2.1, va_K.moved (u := U) (U := U.calling g mk a) (Vm.Alike.refl U.vm) z.2.2⟩), fun U hU hW => ⟨rfl, by rw [hU], by rw [hU]; exact hPc, va_K.moved hW.alike (hK.sub [] rfl)⟩⟩ rfl rfl hl.1 rfl (lv_room (Nat.le_of_ble_eq_true rfl)) dL_law_12 ⟨Nat.le_of_ble_eq_true rfl, Nat.le_of_ble_eq_true rfl⟩) hS (fun a _ z => hFc a z) hFc (fun u t H1 locs ht hvm hw hB hz1 hk1 hS => ?_)
  obtain ⟨cI2, cZ, q2, sp1, ld1⟩ := u
  obtain ⟨hP1, hK1, hD1⟩ := hB
  rw [ht] at hP1
  have hK1 := va_K.moved hvm.symm hK1
  obtain ⟨hw, hsp, hld⟩ := hw
  have hw : q2 0 = h1 := hw
  subst hw
  have hP1 : va_P D vwCl (wm cI2 cZ q2 (nI 0) z0 sp1 ld1 z0 z0 z0 z0 z0 z0 0 (nI 0) (nI 0) (nI 0) z0) H1 := hP1
  have hD1 : va_D _ (wm cI2 cZ q2 (nI 0) z0 sp1 ld1 z0 z0 z0 z0 z0 z0 0 (nI 0) (nI 0) (nI 0) z0) := hD1
  obtain ⟨hP, hD⟩ := va_join (wr := wx cI q z0 (fa_fill (fun _ => nI 1) z0 64) (fa_fill (fun _ => -1) z0 32) z0 z0 z0 z0 0 (nI 0) z0) (w1 := wm cI2 cZ q2 (nI 0) z0 sp1 ld1 z0 z0 z0 z0 z0 z0 0 (nI 0) (nI 0) (nI 0) z0) hP hD [9] [0, 1, 2, 3, 4, 5, 6, 7, 8] rfl rfl (by decide) (by decide) hk1 hFc hP1 hD1
  have hK : va_K D vwCl [(cI, .int), (cI2, .int), (cZ, .boolean)] s := hK.app hK1
  generalize H1 = H at hP hS ⊢
  have hP : va_P D vwCl (wx cI q z0 (fa_fill (fun _ => nI 1) z0 64) (fa_fill (fun _ => -1) z0 32) z0 z0 z0 z0 0 (nI 0) z0 ++ wm cI2 cZ q2 (nI 0) z0 sp1 ld1 z0 z0 z0 z0 z0 z0 0 (nI 0) (nI 0) (nI 0) z0) H := hP
  have hD : va_D (fun a : Nat => s.heap.size ≤ a) (wx cI q z0 (fa_fill (fun _ => nI 1) z0 64) (fa_fill (fun _ => -1) z0 32) z0 z0 z0 z0 0 (nI 0) z0 ++ wm cI2 cZ q2 (nI 0) z0 (fa_fill (fun _ => nI 1) z0 64) (fa_fill (fun _ => -1) z0 32) z0 z0 z0 z0 z0 z0 0 (nI 0) (nI 0) (nI 0) z0) := k_D_map (w := wx cI q z0 (fa_fill (fun _ => nI 1) z0 64) (fa_fill (fun _ => -1) z0 32) z0 z0 z0 z0 0 (nI 0) z0 ++ wm cI2 cZ q2 (nI 0) z0 sp1 ld1 z0 z0 z0 z0 z0 z0 0 (nI 0) (nI 0) (nI 0) z0) rfl hD
  have hPs := va_P_one (g := (fa_fill (fun _ => nI 1) z0 64)) (hP.sub [11] rfl) (fun j hj => (hsp j hj).trans (fa_fill_in (f := fun _ => nI 1) (g := z0) hj).symm)
  have hPl := va_P_one (g := (fa_fill (fun _ => -1) z0 32)) (hP.sub [12] rfl) (fun j hj => (hld j hj).trans (fa_fill_in (f := fun _ => (-1 : Int32)) (g := z0) hj).symm)
  have hP : va_P D vwCl (wx cI q z0 (fa_fill (fun _ => nI 1) z0 64) (fa_fill (fun _ => -1) z0 32) z0 z0 z0 z0 0 (nI 0) z0 ++ wm cI2 cZ q2 (nI 0) z0 (fa_fill (fun _ => nI 1) z0 64) (fa_fill (fun _ => -1) z0 32) z0 z0 z0 z0 z0 z0 0 (nI 0) (nI 0) (nI 0) z0) H := ((hP.sub [0, 1, 2, 3, 4, 5, 6, 7, 8, 9, 10, 13, 14, 15, 16, 17, 18, 19] rfl).app (hPs.app hPl)).sub [0, 1, 2, 3, 4, 5, 6, 7, 8, 9, 10, 18, 19, 11, 12, 13, 14, 15, 16, 17] rfl
  refine lv_astore_n (lv' := [(2, .ref (q2 0)), (1, .ref (q 0)), (0, .ref b)]) hx hb dL_law_15 rfl hl (by decide) rfl (fun ls hl => ?_)
  refine lv_iconst (v := nI 1) hx hb dL_law_16 (by decide) ?_
  refine va_newa (atype := .long) (ty := .long) (N' := 1) (a0 := (1, .inr (.inl (fun _ => 0)))) hx hb (hts0 (.arrayClass .long) (by decide +kernel)) rfl hK hP hD hS hA (fun _ => rfl) (nI_pos (by decide)) (nI_clamp (by decide)) (Nat.le_of_ble_eq_true rfl) (Nat.le_of_ble_eq_true rfl) (Nat.le_of_ble_eq_true rfl) dL_law_17 (fun o cJ H hK hP hD hS => ?_)
  refine lv_astore_n (lv' := [(3, .ref o), (2, .ref (q2 0)), (1, .ref (q 0)), (0, .ref b)]) hx hb dL_law_19 rfl hl (by decide) rfl (fun ls hl => ?_)
  refine lv_iconst (v := nI 0) hx hb dL_law_20 (by decide) ?_
  refine lv_istore (lv' := [(4, .int (nI 0)), (3, .ref o), (2, .ref (q2 0)), (1, .ref (q 0)), (0, .ref b)]) hx hb dL_law_21 hl (by decide) rfl (fun ls hl => ?_)
  refine W.widen (k := 21) (n := 1000) (Nat.le_of_ble_eq_true rfl) (Nat.le_of_ble_eq_true rfl) ?_
  exact law_loop (D := D) (cI := cI) (cI2 := cI2) (cZ := cZ) (cJ := cJ) (q := q) (q2 := q2) (o := o) ⟨C0, hst, hex, hnc, hK, hL⟩ 512 0 21 1000 _ _ _ (by omega) (Nat.zero_le _) (by decide) (by decide) (lwI_mk lwR_0 hP hD hS) hl
