theorem v_upd {tk : Nat → Int32} {i : Nat} {x : Int32} (h : ∀ v, v < i → tk v = x) : ∀ v, v < i + 1 → upd tk i x v = x := by
  intro v hv
  by_cases e : v = i
  · subst e
    exact pk_us
  · rw [pk_un e]
    exact h v (by omega)
theorem lqR_0 {lq1 : Nat → Int32} (h : ∀ v, v < 32 → lq1 v = -1) : lqR z0 (fa_fill (fun _ => -1) z0 32) z0 z0 z0 z0 (nI 0) z0 z0 lq1 (fun _ => 0) (fun _ => 0) (fun _ => 8) (fun _ => 0) (fun _ => 0) := by
  refine ⟨fun _ _ => S25_0, fun w hw => ⟨Nat.le_refl _, fa_fill_in hw, h w hw⟩, fun _ _ => ⟨show 0 < 32768 by decide, show 0 ≤ 5 by decide, rfl⟩, fun _ _ => ⟨show 0 ≤ 5 by decide, show 0 < 8 ^ 0 by decide, rfl, fun j hj => absurd hj (Nat.not_lt_zero _), rfl⟩, kp_0 _ _⟩
set_option maxHeartbeats 4000000 in
set_option maxRecDepth 100000 in
theorem whole_start {p : Program} {e : Env} {s : State} {m : MethodId} {below : List Frame} {meth : Method} {c : Code} (l : Launch) (hflags : l.flags = flags0) {b L : Nat} {xs : Nat → Int32} (hL : L ≤ 260) (C0 : lw_At p s m meth c b L xs) : W p l e room_1 s m #[Value.ref b] below meth c s.heap [] 0 0 (lw_Z below #[Value.ref b] s) (entryFrame m ([Value.ref b] : List Value).toArray 24) := by
  obtain ⟨hx, hb, hr, hml, hown, hts0, hX, hbl, hlocks, hgv⟩ := id C0
  have hA : ∀ a : Nat, s.heap.size ≤ a → (fun a : Nat => s.heap.size ≤ a) a := fun _ h => h
  have hts : ∀ w ∈ wsL_law, w.before #[Value.ref b] s = true := fun w h => hts0 w (wsL_law_in w h)
  have hown : s.vm.findClass RL = some m.cls := hown
  obtain ⟨c0, iS0, hKn0⟩ := u_known (C := RX0) (T := TX0) (N := 10) (n := 10) hts inlX0 (hts0 (.instantiable RX0 10) (by decide +kernel))
  obtain ⟨D, hKc⟩ : ∃ D : va_G, ∀ (k : Nat) (q : vw_C), vwCl[k]? = some q → u_Kn s q.1 q.2.1 q.2.2 (D.1 k) (D.2 k) := by
    refine ⟨(fun _ => c0, fun _ => iS0), ?_⟩
    intro k q hq
    match k, hq with
    | 0, hq => cases hq; exact hKn0
    | k + 1, hq => simp [vwCl] at hq
  have hS : va_S (fun a : Nat => s.heap.size ≤ a) s.heap s.heap [] := va_S.rf
  have hK : va_K D vwCl [] s := ⟨hKc, fun k q h => by simp at h⟩
  have hP : va_P D vwCl [] s.heap := fun k q h => by simp at h
  have hD : va_D (fun a : Nat => s.heap.size ≤ a) [] := ⟨fun i j p q h => by simp at h, fun k q h => by simp at h⟩
  have hl := lv_entry ([.ref b]) (n := 24) (Nat.le_of_ble_eq_true rfl)
  rw [lg_entry_eq]
  generalize (lg_sl ([.ref b]) ++ List.replicate (24 - (lg_sl ([.ref b])).length) Slot.unset).toArray = ls at hl ⊢
  have hl : lv_has ls 24 [(0, .ref b)] := hl
  refine va_new (ci := 0) (fs := [.null, .null, .null, .null, .null, .null, .null, .long 0, .int 0, .null]) (C := RX0) (T := TX0) (N := 10) hx hb hts inlX0 tyX0 tyX0_ok hown (hts (.classLink RL 9 RX0) (by decide +kernel)) (hts0 (.instantiable RX0 10) (by decide +kernel)) (hts0 (.initialized RX0) (by decide +kernel)) hK hP hD hS hA rfl (fun j hj => by rcases (show j = 0 ∨ j = 1 ∨ j = 2 ∨ j = 3 ∨ j = 4 ∨ j = 5 ∨ j = 6 ∨ j = 7 ∨ j = 8 ∨ j = 9 by omega) with rfl | rfl | rfl | rfl | rfl | rfl | rfl | rfl | rfl | rfl <;> rfl) (Nat.le_of_ble_eq_true rfl) (Nat.le_of_ble_eq_true rfl) dL_law_0 (fun h0 H hP hD hS => ?_)
  have hP : va_P D vwCl (wxF h0) H := hP
  have hD : va_D (fun a : Nat => s.heap.size ≤ a) (wxF h0) := hD
  refine lv_dup hx hb dL_law_3 rfl ?_
  have hFc := va_free (wc := wxF h0) hD hS hA [0] rfl
  have hDc : va_D _ (wxF h0) := hD.sub [0] (by decide) rfl
  have hPc : va_P D vwCl (wxF h0) H := hP.sub [0] rfl
  refine va_callv (va_runI (As := []) (rest := [.ref h0]) ⟨hx, hb, hml, hown, hts⟩ (c_X0_init l D h0 H.size (k_D_tt hDc)) (cwI 0 hts gL_law_X0_init rfl rfl rfl (hts0 (.initialized RX0) (by decide +kernel)) (hts (.methodLink RL 29 yX0_init) (by decide +kernel)) (hts (.instanceMethod yX0_init) (by decide +kernel)) rfl (by decide +kernel) ⟨Nat.le_of_ble_eq_true rfl, Nat.le_of_ble_eq_true rfl⟩) ⟨k_P_bl (fun a U g mk z => ⟨z.1, z.2.1, va_K.moved (u := U) (U := U.calling g mk a) (Vm.Alike.refl U.vm) z.2.2⟩), fun U hU hW => ⟨rfl, by rw [hU], by rw [hU]; exact hPc, va_K.moved hW.alike (hK.sub [] rfl)⟩⟩ rfl rfl hl.1 rfl (lv_room (Nat.le_of_ble_eq_true rfl)) dL_law_4 ⟨Nat.le_of_ble_eq_true rfl, Nat.le_of_ble_eq_true rfl⟩) hS (fun a _ z => hFc a z) hFc (fun u t H1 locs ht hvm hw hB hz1 hk1 hS => ?_)
  obtain ⟨cI, q⟩ := u
  obtain ⟨hP1, hK1, hD1⟩ := hB
  rw [ht] at hP1
  have hK1 := va_K.moved hvm.symm hK1
  have hw : q 0 = h0 := hw
  subst hw
  have hP1 : va_P D vwCl (wx cI q z0 (fa_fill (fun _ => nI 1) z0 64) (fa_fill (fun _ => -1) z0 32) z0 z0 z0 z0 0 (nI 0) z0) H1 := hP1
  have hD1 : va_D _ (wx cI q z0 (fa_fill (fun _ => nI 1) z0 64) (fa_fill (fun _ => -1) z0 32) z0 z0 z0 z0 0 (nI 0) z0) := hD1
  obtain ⟨hP, hD⟩ := va_join (wr := []) (w1 := wx cI q z0 (fa_fill (fun _ => nI 1) z0 64) (fa_fill (fun _ => -1) z0 32) z0 z0 z0 z0 0 (nI 0) z0) hP hD [0] [] rfl rfl (by decide) (by decide) hk1 hFc hP1 hD1
  have hK := hK1
  generalize H1 = H at hP hS ⊢
  have hP : va_P D vwCl (wx cI q z0 (fa_fill (fun _ => nI 1) z0 64) (fa_fill (fun _ => -1) z0 32) z0 z0 z0 z0 0 (nI 0) z0) H := hP
  have hD : va_D (fun a : Nat => s.heap.size ≤ a) (wx cI q z0 (fa_fill (fun _ => nI 1) z0 64) (fa_fill (fun _ => -1) z0 32) z0 z0 z0 z0 0 (nI 0) z0) := hD
  refine lv_astore_n (lv' := [(1, .ref (q 0)), (0, .ref b)]) hx hb dL_law_7 rfl hl (by decide) rfl (fun ls hl => ?_)
  refine lv_bipush (v := nI 32) hx hb dL_law_8 (by decide) ?_
  refine n_newa (N' := 32) hx hb (hts (.arrayClass .int) (by decide +kernel)) hK 0 rfl hP hD hS hA (by decide) (Nat.le_of_ble_eq_true rfl) (Nat.le_of_ble_eq_true rfl) (Nat.le_of_ble_eq_true rfl) dL_law_10 (fun a1 H hP hD hS => ?_)
  refine lv_astore_n (lv' := [(2, .ref a1), (1, .ref (q 0)), (0, .ref b)]) hx hb dL_law_12 rfl hl (by decide) rfl (fun ls hl => ?_)
  refine lv_bipush (v := nI 32) hx hb dL_law_13 (by decide) ?_
  refine n_newa (N' := 32) hx hb (hts (.arrayClass .int) (by decide +kernel)) hK 0 rfl hP hD hS hA (by decide) (Nat.le_of_ble_eq_true rfl) (Nat.le_of_ble_eq_true rfl) (Nat.le_of_ble_eq_true rfl) dL_law_15 (fun a2 H hP hD hS => ?_)
  have hP : va_P D vwCl (wl cI q a1 a2 z0 (fa_fill (fun _ => nI 1) z0 64) (fa_fill (fun _ => -1) z0 32) z0 z0 z0 z0 0 (nI 0) z0 z0 z0) H := hP
  have hD : va_D (fun a : Nat => s.heap.size ≤ a) (wl cI q a1 a2 z0 (fa_fill (fun _ => nI 1) z0 64) (fa_fill (fun _ => -1) z0 32) z0 z0 z0 z0 0 (nI 0) z0 z0 z0) := hD
  refine W.widen (k := 96) (n := 1076) (Nat.le_of_ble_eq_true rfl) (Nat.le_of_ble_eq_true rfl) ?_
  refine lv_astore_n (lv' := [(3, .ref a2), (2, .ref a1), (1, .ref (q 0)), (0, .ref b)]) hx hb dL_law_17 rfl hl (by decide) rfl (fun ls hl => ?_)
  refine lv_lconst (v := 0) hx hb dL_law_18 (by decide) ?_
  refine lv_lstore (lv' := [(4, .long 0), (3, .ref a2), (2, .ref a1), (1, .ref (q 0)), (0, .ref b)]) hx hb dL_law_19 hl (by decide) rfl (fun ls hl => ?_)
  refine lv_iconst (v := nI 0) hx hb dL_law_21 (by decide) ?_
  refine lv_istore (lv' := [(6, .int (nI 0)), (4, .long 0), (3, .ref a2), (2, .ref a1), (1, .ref (q 0)), (0, .ref b)]) hx hb dL_law_22 hl (by decide) rfl (fun ls hl => ?_)
  refine W.loopH (fun i H locs ls => ∃ (lq1 : Nat → Int32), (∀ v, v < i → lq1 v = -1) ∧ va_P D vwCl (wl cI q a1 a2 z0 (fa_fill (fun _ => nI 1) z0 64) (fa_fill (fun _ => -1) z0 32) z0 z0 z0 z0 0 (nI 0) z0 z0 lq1) H ∧ va_D (fun a : Nat => s.heap.size ≤ a) (wl cI q a1 a2 z0 (fa_fill (fun _ => nI 1) z0 64) (fa_fill (fun _ => -1) z0 32) z0 z0 z0 z0 0 (nI 0) z0 z0 lq1) ∧ va_S (fun a : Nat => s.heap.size ≤ a) s.heap H locs ∧ lv_has ls 24 [(0, .ref b), (1, .ref (q 0)), (2, .ref a1), (3, .ref a2), (4, .long 0), (6, .int (nI i))]) (32) (0) (by omega) ⟨z0, fun v hv => absurd hv (Nat.not_lt_zero _), hP, hD, hS, lv_sub hl [5, 4, 3, 2, 1, 0] rfl⟩ ?_
  intro i H locs ls hi_24 hI_24 ih_24
  obtain ⟨lq1, hf0_24, hP, hD, hS, hl⟩ := hI_24
  refine lv_iload hx hb dL_law_24 (lv_at hl 5 rfl) ?_
  refine lv_bipush (v := nI 32) hx hb dL_law_26 (by decide) ?_
  refine n_icmp_ge (tgt := 42) hx hb dL_law_28 (by decide) (by omega) (by omega) (fun c_28 => ?_) (fun c_28 => ?_)
  · refine lv_iconst (v := nI 0) hx hb dL_law_42 (by decide) ?_
    refine lv_istore (lv' := [(6, .int (nI 0)), (0, .ref b), (1, .ref (q 0)), (2, .ref a1), (3, .ref a2), (4, .long 0)]) hx hb dL_law_43 hl (by decide) rfl (fun ls hl => ?_)
    have hlq : ∀ v, v < 32 → lq1 v = -1 := fun v hv => hf0_24 v (by omega)
    exact law_loop (co := 0) ⟨C0, hK, hL⟩ (lqI_mk (lqR_0 hlq) hP hD hS) (lv_sub hl [1, 2, 3, 4, 5, 0] rfl)
  · refine lv_aload_n hx hb dL_law_31 rfl (lv_at hl 3 rfl) ?_
    refine lv_iload hx hb dL_law_32 (lv_at hl 5 rfl) ?_
    refine lv_iconst (v := (-1)) hx hb dL_law_34 (by decide) ?_
    refine n_iast hx hb hK hP hD hS 10 0 rfl rfl (k := i) (by omega) (Nat.le_of_ble_eq_true rfl) dL_law_35 (fun H locs hP hD hS => ?_)
    have hP : va_P D vwCl (wl cI q a1 a2 z0 (fa_fill (fun _ => nI 1) z0 64) (fa_fill (fun _ => -1) z0 32) z0 z0 z0 z0 0 (nI 0) z0 z0 (upd lq1 i (-1))) H := hP
    have hD : va_D (fun a : Nat => s.heap.size ≤ a) (wl cI q a1 a2 z0 (fa_fill (fun _ => nI 1) z0 64) (fa_fill (fun _ => -1) z0 32) z0 z0 z0 z0 0 (nI 0) z0 z0 (upd lq1 i (-1))) := hD
    refine lv_iinc (v := nI (i + 1)) (lv' := [(6, .int (nI (i + 1))), (0, .ref b), (1, .ref (q 0)), (2, .ref a1), (3, .ref a2), (4, .long 0)]) hx hb dL_law_36 hl (k := 5) rfl (nI_inc _) (by decide) rfl (fun ls hl => ?_)
    refine lv_goto (tgt := 24) hx hb dL_law_39 (by decide) ?_
    exact ih_24 _ _ _ (by omega) ⟨upd lq1 i (-1), v_upd hf0_24, hP, hD, hS, lv_sub hl [1, 2, 3, 4, 5, 0] rfl⟩
