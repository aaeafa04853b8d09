section KNEW
variable {p : Program} {l : Launch} {e : Env} {R : Room} {s : State} {m : MethodId} {args : Array Value} {below : List Frame} {meth : Method} {c : Code} {H H0 : Heap} {locs : List Loc} {cells slots : Nat} {Q : State → Prop}
variable {cc : ByteArray} {pc : Nat} {ls : Array Slot} {rest : List Value} {D : va_G} {cl : List vw_C} {tys : List (ClassId × FieldType)} {ws : va_W} {A : Nat → Prop}
theorem n_newa (hexec : p.tables.exec = Jvm.exec) (hb : c.code = cc) (harr : (Cond.arrayClass .int).before args s = true) (hK : va_K D cl tys s) (t0 : Nat) {cI : ClassId} (ht : tys[t0]? = some (cI, .int)) (hP : va_P D cl ws H) (hD : va_D A ws) (hS : va_S A H0 H locs) (hA : ∀ q, H0.size ≤ q → A q)
    {N' : Nat} (hN : N' < 2 ^ 31) (hbytes : N' * componentBytes .int ≤ 536870912) (hcells : cells + 1 ≤ R.cells) (hslots : slots + N' ≤ R.slots) (hdg : decode cc pc = .ok (.newarray .int, 2))
    (kk : ∀ (q : Nat) (H1 : Heap), va_P D cl (ws ++ [(q, .inl (cI, N', .inl (fun _ => nI 0)))]) H1 → va_D A (ws ++ [(q, .inl (cI, N', .inl (fun _ => nI 0)))]) → va_S A H0 H1 locs →
      W p l e R s m args below meth c H1 locs (cells + 1) (slots + N') Q (F0 m (pc + 2) ls (.ref q :: rest))) : W p l e R s m args below meth c H locs cells slots Q (F0 m pc ls (.int (nI N') :: rest)) := by
  refine va_newa (atype := .int) (ty := .int) (a0 := (N', .inl (fun _ => nI 0))) hexec hb harr rfl hK hP hD hS hA (fun _ => rfl) (nI_pos hN) (nI_clamp hN) hbytes hcells hslots hdg fun q cA H1 hK1 hP1 hD1 hS1 => ?_
  have h1 : va_RA s cI .int := (hK.2 t0 _ ht).2
  have h2 : va_RA s cA .int := (hK1.2 tys.length (cA, .int) (by rw [List.getElem?_append_right (Nat.le_refl _), Nat.sub_self]; rfl)).2
  have h3 : cA = cI := Option.some.inj ((show s.vm.findClass ("[" ++ FieldType.int.toString) = some cA from h2).symm.trans h1)
  subst h3
  exact kk q H1 hP1 hD1 hS1
end KNEW
abbrev k_q (L : List Nat) : Nat → Nat := fun n => L.getD n 0
abbrev wxF (h0 : Nat) : va_W := [(h0, .inr (0, [.null, .null, .null, .null, .null, .null, .null, .long 0, .int 0, .null]))]
abbrev wmF (h0 : Nat) : va_W := [(h0, .inr (1, [.int 0, .null, .null, .null, .null, .null, .null, .null, .null, .null, .long 0, .int 0, .int 0, .int 0, .null]))]
abbrev z0 : Nat → Int32 := fun _ => nI 0
theorem v_upd {tk : Nat → Int32} {i : Nat} {x : Int32} (h : ∀ v, v < i → tk v = x) : ∀ v, v < i + 1 → upd tk i x v = x := by
  intro v hv
  by_cases e : v = i
  · subst e
    exact pk_us
  · rw [pk_un e]
    exact h v (by omega)
set_option maxHeartbeats 4000000 in
set_option maxRecDepth 100000 in
theorem c_X0_init (l : Launch) (D : va_G) (h0 sz : Nat) (hD0 : va_D (fun _ => True) (wxF h0)) : Met l yX0_init wsX0_init ({ frames := 1, cells := 8, slots := 344, locals := 23 } : Room) (k_P [.ref h0] (fun U => U.heap.size = sz ∧ va_P D vwCl (wxF h0) U.heap ∧ va_K D vwCl [] U)) (va_Qv (fun u : ClassId × (Nat → Nat) => u.2 0 = h0) (fun u t => va_P D vwCl (wx u.1 u.2 z0 (fa_fill (fun _ => nI 1) z0 64) (fa_fill (fun _ => -1) z0 32) z0 z0 z0 z0 0 (nI 0) z0) t.heap ∧ va_K D vwCl [(u.1, .int)] t ∧ va_D (va_A (wxF h0) sz) (wx u.1 u.2 z0 (fa_fill (fun _ => nI 1) z0 64) (fa_fill (fun _ => -1) z0 32) z0 z0 z0 z0 0 (nI 0) z0)) (va_A (wxF h0) sz)) 8 344 (va_A (wxF h0) sz) := by
  refine k_head (cc := cX0_init) (maxL := 1) (ret := none) [(0, .ref h0)] (by decide) rfl (Nat.le_of_ble_eq_true rfl) rfl ?_
  intro p e s m below meth c ls hx hb hr hml hown hts hlocks hname hB hl
  have hown : s.vm.findClass RX0 = some m.cls := hown
  have hname : meth.name = "<init>" := hname
  obtain ⟨hsz, hP, hK⟩ := hB
  subst hsz
  have hin : ∀ w ∈ wsX00, w ∈ wsX0_init := fun w h => List.mem_cons_of_mem _ (List.mem_append_right _ h)
  have hD := hD0.self (sz := s.heap.size)
  generalize hAe : va_A (wxF h0) s.heap.size = A at hD ⊢
  have hA : ∀ q : Nat, s.heap.size ≤ q → A q := fun q h => by rw [← hAe]; exact Or.inr h
  have hS : va_S A s.heap s.heap [] := va_S.rf
  have hP : va_P D vwCl (wxF h0) s.heap := hP
  refine lv_aload_n hx hb dX0_init_0 rfl (lv_at hl 0 rfl) ?_
  refine W.objInit hx hb hown (hts (.methodLink RX0 3 objectInit) (by decide +kernel)) (hts (.instanceMethod objectInit) (by decide +kernel)) (hts _ (List.mem_cons_of_mem _ (List.mem_append_left _ (List.mem_of_getElem? (i := 2) rfl)))) rfl (by rw [hml]; exact hl.1) rfl dX0_init_1 (Nat.le_of_ble_eq_true rfl) (Nat.le_of_ble_eq_true rfl) ?_
  refine W.eq (g2 := F0 m 4 ls []) rfl ?_
  refine lv_aload_n hx hb dX0_init_4 rfl (lv_at hl 0 rfl) ?_
  refine lv_bipush (v := nI 8) hx hb dX0_init_5 (by decide) ?_
  refine va_newa (atype := .int) (ty := .int) (N' := 8) (a0 := (8, .inl (fun _ => nI 0))) hx hb (hts (.arrayClass .int) (by decide +kernel)) rfl hK hP hD hS hA (fun _ => rfl) (nI_pos (by decide)) (nI_clamp (by decide)) (Nat.le_of_ble_eq_true rfl) (Nat.le_of_ble_eq_true rfl) (Nat.le_of_ble_eq_true rfl) dX0_init_7 (fun q1 cI H hK hP hD hS => ?_)
  have hK : va_K D vwCl [(cI, .int)] s := hK
  have hP : va_P D vwCl [(h0, .inr (0, [.null, .null, .null, .null, .null, .null, .null, .long 0, .int 0, .null])), (q1, .inl (cI, 8, .inl z0))] H := hP
  have hD : va_D A [(h0, .inr (0, [.null, .null, .null, .null, .null, .null, .null, .long 0, .int 0, .null])), (q1, .inl (cI, 8, .inl z0))] := hD
  refine va_putF (D := D) (ci := 0) (v := .ref q1) (ty := (.array .int)) (C := RX0) (T := TX0) (N := 10) hx hb hts hin tyX0 tyX0_ok nmX0 hown hK hP hD hS 0 rfl rfl 0 (by decide) (hts (.fieldLink RX0 9 "SignRail" "shapes" "[I") (by decide +kernel)) (fun _ h9 => h9) rfl hname rfl (by decide +kernel) rfl rfl (Nat.le_of_ble_eq_true rfl) dX0_init_9 (fun H locs hP hD hS => ?_)
  have hP : va_P D vwCl [(h0, .inr (0, [.ref q1, .null, .null, .null, .null, .null, .null, .long 0, .int 0, .null])), (q1, .inl (cI, 8, .inl z0))] H := hP
  have hD : va_D A [(h0, .inr (0, [.ref q1, .null, .null, .null, .null, .null, .null, .long 0, .int 0, .null])), (q1, .inl (cI, 8, .inl z0))] := hD
  refine lv_aload_n hx hb dX0_init_12 rfl (lv_at hl 0 rfl) ?_
  refine lv_bipush (v := nI 64) hx hb dX0_init_13 (by decide) ?_
  refine n_newa (N' := 64) hx hb (hts (.arrayClass .int) (by decide +kernel)) hK 0 rfl hP hD hS hA (by decide) (Nat.le_of_ble_eq_true rfl) (Nat.le_of_ble_eq_true rfl) (Nat.le_of_ble_eq_true rfl) dX0_init_15 (fun q2 H hP hD hS => ?_)
  have hP : va_P D vwCl [(h0, .inr (0, [.ref q1, .null, .null, .null, .null, .null, .null, .long 0, .int 0, .null])), (q1, .inl (cI, 8, .inl z0)), (q2, .inl (cI, 64, .inl z0))] H := hP
  have hD : va_D A [(h0, .inr (0, [.ref q1, .null, .null, .null, .null, .null, .null, .long 0, .int 0, .null])), (q1, .inl (cI, 8, .inl z0)), (q2, .inl (cI, 64, .inl z0))] := hD
  refine va_putF (D := D) (ci := 0) (v := .ref q2) (ty := (.array .int)) (C := RX0) (T := TX0) (N := 10) hx hb hts hin tyX0 tyX0_ok nmX0 hown hK hP hD hS 0 rfl rfl 1 (by decide) (hts (.fieldLink RX0 13 "SignRail" "spaces" "[I") (by decide +kernel)) (fun _ h9 => h9) rfl hname rfl (by decide +kernel) rfl rfl (Nat.le_of_ble_eq_true rfl) dX0_init_17 (fun H locs hP hD hS => ?_)
  have hP : va_P D vwCl [(h0, .inr (0, [.ref q1, .ref q2, .null, .null, .null, .null, .null, .long 0, .int 0, .null])), (q1, .inl (cI, 8, .inl z0)), (q2, .inl (cI, 64, .inl z0))] H := hP
  have hD : va_D A [(h0, .inr (0, [.ref q1, .ref q2, .null, .null, .null, .null, .null, .long 0, .int 0, .null])), (q1, .inl (cI, 8, .inl z0)), (q2, .inl (cI, 64, .inl z0))] := hD
  refine lv_aload_n hx hb dX0_init_20 rfl (lv_at hl 0 rfl) ?_
  refine lv_bipush (v := nI 32) hx hb dX0_init_21 (by decide) ?_
  refine n_newa (N' := 32) hx hb (hts (.arrayClass .int) (by decide +kernel)) hK 0 rfl hP hD hS hA (by decide) (Nat.le_of_ble_eq_true rfl) (Nat.le_of_ble_eq_true rfl) (Nat.le_of_ble_eq_true rfl) dX0_init_23 (fun q3 H hP hD hS => ?_)
  have hP : va_P D vwCl [(h0, .inr (0, [.ref q1, .ref q2, .null, .null, .null, .null, .null, .long 0, .int 0, .null])), (q1, .inl (cI, 8, .inl z0)), (q2, .inl (cI, 64, .inl z0)), (q3, .inl (cI, 32, .inl z0))] H := hP
  have hD : va_D A [(h0, .inr (0, [.ref q1, .ref q2, .null, .null, .null, .null, .null, .long 0, .int 0, .null])), (q1, .inl (cI, 8, .inl z0)), (q2, .inl (cI, 64, .inl z0)), (q3, .inl (cI, 32, .inl z0))] := hD
  refine va_putF (D := D) (ci := 0) (v := .ref q3) (ty := (.array .int)) (C := RX0) (T := TX0) (N := 10) hx hb hts hin tyX0 tyX0_ok nmX0 hown hK hP hD hS 0 rfl rfl 2 (by decide) (hts (.fieldLink RX0 16 "SignRail" "leads" "[I") (by decide +kernel)) (fun _ h9 => h9) rfl hname rfl (by decide +kernel) rfl rfl (Nat.le_of_ble_eq_true rfl) dX0_init_25 (fun H locs hP hD hS => ?_)
  have hP : va_P D vwCl [(h0, .inr (0, [.ref q1, .ref q2, .ref q3, .null, .null, .null, .null, .long 0, .int 0, .null])), (q1, .inl (cI, 8, .inl z0)), (q2, .inl (cI, 64, .inl z0)), (q3, .inl (cI, 32, .inl z0))] H := hP
  have hD : va_D A [(h0, .inr (0, [.ref q1, .ref q2, .ref q3, .null, .null, .null, .null, .long 0, .int 0, .null])), (q1, .inl (cI, 8, .inl z0)), (q2, .inl (cI, 64, .inl z0)), (q3, .inl (cI, 32, .inl z0))] := hD
  refine lv_aload_n hx hb dX0_init_28 rfl (lv_at hl 0 rfl) ?_
  refine lv_bipush (v := nI 8) hx hb dX0_init_29 (by decide) ?_
  refine n_newa (N' := 8) hx hb (hts (.arrayClass .int) (by decide +kernel)) hK 0 rfl hP hD hS hA (by decide) (Nat.le_of_ble_eq_true rfl) (Nat.le_of_ble_eq_true rfl) (Nat.le_of_ble_eq_true rfl) dX0_init_31 (fun q4 H hP hD hS => ?_)
  have hP : va_P D vwCl [(h0, .inr (0, [.ref q1, .ref q2, .ref q3, .null, .null, .null, .null, .long 0, .int 0, .null])), (q1, .inl (cI, 8, .inl z0)), (q2, .inl (cI, 64, .inl z0)), (q3, .inl (cI, 32, .inl z0)), (q4, .inl (cI, 8, .inl z0))] H := hP
  have hD : va_D A [(h0, .inr (0, [.ref q1, .ref q2, .ref q3, .null, .null, .null, .null, .long 0, .int 0, .null])), (q1, .inl (cI, 8, .inl z0)), (q2, .inl (cI, 64, .inl z0)), (q3, .inl (cI, 32, .inl z0)), (q4, .inl (cI, 8, .inl z0))] := hD
  refine va_putF (D := D) (ci := 0) (v := .ref q4) (ty := (.array .int)) (C := RX0) (T := TX0) (N := 10) hx hb hts hin tyX0 tyX0_ok nmX0 hown hK hP hD hS 0 rfl rfl 3 (by decide) (hts (.fieldLink RX0 19 "SignRail" "names" "[I") (by decide +kernel)) (fun _ h9 => h9) rfl hname rfl (by decide +kernel) rfl rfl (Nat.le_of_ble_eq_true rfl) dX0_init_33 (fun H locs hP hD hS => ?_)
  have hP : va_P D vwCl [(h0, .inr (0, [.ref q1, .ref q2, .ref q3, .ref q4, .null, .null, .null, .long 0, .int 0, .null])), (q1, .inl (cI, 8, .inl z0)), (q2, .inl (cI, 64, .inl z0)), (q3, .inl (cI, 32, .inl z0)), (q4, .inl (cI, 8, .inl z0))] H := hP
  have hD : va_D A [(h0, .inr (0, [.ref q1, .ref q2, .ref q3, .ref q4, .null, .null, .null, .long 0, .int 0, .null])), (q1, .inl (cI, 8, .inl z0)), (q2, .inl (cI, 64, .inl z0)), (q3, .inl (cI, 32, .inl z0)), (q4, .inl (cI, 8, .inl z0))] := hD
  refine lv_aload_n hx hb dX0_init_36 rfl (lv_at hl 0 rfl) ?_
  refine lv_bipush (v := nI 32) hx hb dX0_init_37 (by decide) ?_
  refine n_newa (N' := 32) hx hb (hts (.arrayClass .int) (by decide +kernel)) hK 0 rfl hP hD hS hA (by decide) (Nat.le_of_ble_eq_true rfl) (Nat.le_of_ble_eq_true rfl) (Nat.le_of_ble_eq_true rfl) dX0_init_39 (fun q5 H hP hD hS => ?_)
  have hP : va_P D vwCl [(h0, .inr (0, [.ref q1, .ref q2, .ref q3, .ref q4, .null, .null, .null, .long 0, .int 0, .null])), (q1, .inl (cI, 8, .inl z0)), (q2, .inl (cI, 64, .inl z0)), (q3, .inl (cI, 32, .inl z0)), (q4, .inl (cI, 8, .inl z0)), (q5, .inl (cI, 32, .inl z0))] H := hP
  have hD : va_D A [(h0, .inr (0, [.ref q1, .ref q2, .ref q3, .ref q4, .null, .null, .null, .long 0, .int 0, .null])), (q1, .inl (cI, 8, .inl z0)), (q2, .inl (cI, 64, .inl z0)), (q3, .inl (cI, 32, .inl z0)), (q4, .inl (cI, 8, .inl z0)), (q5, .inl (cI, 32, .inl z0))] := hD
  refine va_putF (D := D) (ci := 0) (v := .ref q5) (ty := (.array .int)) (C := RX0) (T := TX0) (N := 10) hx hb hts hin tyX0 tyX0_ok nmX0 hown hK hP hD hS 0 rfl rfl 4 (by decide) (hts (.fieldLink RX0 22 "SignRail" "signTexts" "[I") (by decide +kernel)) (fun _ h9 => h9) rfl hname rfl (by decide +kernel) rfl rfl (Nat.le_of_ble_eq_true rfl) dX0_init_41 (fun H locs hP hD hS => ?_)
  have hP : va_P D vwCl [(h0, .inr (0, [.ref q1, .ref q2, .ref q3, .ref q4, .ref q5, .null, .null, .long 0, .int 0, .null])), (q1, .inl (cI, 8, .inl z0)), (q2, .inl (cI, 64, .inl z0)), (q3, .inl (cI, 32, .inl z0)), (q4, .inl (cI, 8, .inl z0)), (q5, .inl (cI, 32, .inl z0))] H := hP
  have hD : va_D A [(h0, .inr (0, [.ref q1, .ref q2, .ref q3, .ref q4, .ref q5, .null, .null, .long 0, .int 0, .null])), (q1, .inl (cI, 8, .inl z0)), (q2, .inl (cI, 64, .inl z0)), (q3, .inl (cI, 32, .inl z0)), (q4, .inl (cI, 8, .inl z0)), (q5, .inl (cI, 32, .inl z0))] := hD
  refine lv_aload_n hx hb dX0_init_44 rfl (lv_at hl 0 rfl) ?_
  refine lv_bipush (v := nI 32) hx hb dX0_init_45 (by decide) ?_
  refine n_newa (N' := 32) hx hb (hts (.arrayClass .int) (by decide +kernel)) hK 0 rfl hP hD hS hA (by decide) (Nat.le_of_ble_eq_true rfl) (Nat.le_of_ble_eq_true rfl) (Nat.le_of_ble_eq_true rfl) dX0_init_47 (fun q6 H hP hD hS => ?_)
  have hP : va_P D vwCl [(h0, .inr (0, [.ref q1, .ref q2, .ref q3, .ref q4, .ref q5, .null, .null, .long 0, .int 0, .null])), (q1, .inl (cI, 8, .inl z0)), (q2, .inl (cI, 64, .inl z0)), (q3, .inl (cI, 32, .inl z0)), (q4, .inl (cI, 8, .inl z0)), (q5, .inl (cI, 32, .inl z0)), (q6, .inl (cI, 32, .inl z0))] H := hP
  have hD : va_D A [(h0, .inr (0, [.ref q1, .ref q2, .ref q3, .ref q4, .ref q5, .null, .null, .long 0, .int 0, .null])), (q1, .inl (cI, 8, .inl z0)), (q2, .inl (cI, 64, .inl z0)), (q3, .inl (cI, 32, .inl z0)), (q4, .inl (cI, 8, .inl z0)), (q5, .inl (cI, 32, .inl z0)), (q6, .inl (cI, 32, .inl z0))] := hD
  refine va_putF (D := D) (ci := 0) (v := .ref q6) (ty := (.array .int)) (C := RX0) (T := TX0) (N := 10) hx hb hts hin tyX0 tyX0_ok nmX0 hown hK hP hD hS 0 rfl rfl 5 (by decide) (hts (.fieldLink RX0 25 "SignRail" "signDistances" "[I") (by decide +kernel)) (fun _ h9 => h9) rfl hname rfl (by decide +kernel) rfl rfl (Nat.le_of_ble_eq_true rfl) dX0_init_49 (fun H locs hP hD hS => ?_)
  have hP : va_P D vwCl [(h0, .inr (0, [.ref q1, .ref q2, .ref q3, .ref q4, .ref q5, .ref q6, .null, .long 0, .int 0, .null])), (q1, .inl (cI, 8, .inl z0)), (q2, .inl (cI, 64, .inl z0)), (q3, .inl (cI, 32, .inl z0)), (q4, .inl (cI, 8, .inl z0)), (q5, .inl (cI, 32, .inl z0)), (q6, .inl (cI, 32, .inl z0))] H := hP
  have hD : va_D A [(h0, .inr (0, [.ref q1, .ref q2, .ref q3, .ref q4, .ref q5, .ref q6, .null, .long 0, .int 0, .null])), (q1, .inl (cI, 8, .inl z0)), (q2, .inl (cI, 64, .inl z0)), (q3, .inl (cI, 32, .inl z0)), (q4, .inl (cI, 8, .inl z0)), (q5, .inl (cI, 32, .inl z0)), (q6, .inl (cI, 32, .inl z0))] := hD
  refine lv_aload_n hx hb dX0_init_52 rfl (lv_at hl 0 rfl) ?_
  refine lv_sipush (v := nI 160) hx hb dX0_init_53 (by decide) ?_
  refine n_newa (N' := 160) hx hb (hts (.arrayClass .int) (by decide +kernel)) hK 0 rfl hP hD hS hA (by decide) (Nat.le_of_ble_eq_true rfl) (Nat.le_of_ble_eq_true rfl) (Nat.le_of_ble_eq_true rfl) dX0_init_56 (fun q7 H hP hD hS => ?_)
  have hP : va_P D vwCl [(h0, .inr (0, [.ref q1, .ref q2, .ref q3, .ref q4, .ref q5, .ref q6, .null, .long 0, .int 0, .null])), (q1, .inl (cI, 8, .inl z0)), (q2, .inl (cI, 64, .inl z0)), (q3, .inl (cI, 32, .inl z0)), (q4, .inl (cI, 8, .inl z0)), (q5, .inl (cI, 32, .inl z0)), (q6, .inl (cI, 32, .inl z0)), (q7, .inl (cI, 160, .inl z0))] H := hP
  have hD : va_D A [(h0, .inr (0, [.ref q1, .ref q2, .ref q3, .ref q4, .ref q5, .ref q6, .null, .long 0, .int 0, .null])), (q1, .inl (cI, 8, .inl z0)), (q2, .inl (cI, 64, .inl z0)), (q3, .inl (cI, 32, .inl z0)), (q4, .inl (cI, 8, .inl z0)), (q5, .inl (cI, 32, .inl z0)), (q6, .inl (cI, 32, .inl z0)), (q7, .inl (cI, 160, .inl z0))] := hD
  refine va_putF (D := D) (ci := 0) (v := .ref q7) (ty := (.array .int)) (C := RX0) (T := TX0) (N := 10) hx hb hts hin tyX0 tyX0_ok nmX0 hown hK hP hD hS 0 rfl rfl 6 (by decide) (hts (.fieldLink RX0 28 "SignRail" "signShapes" "[I") (by decide +kernel)) (fun _ h9 => h9) rfl hname rfl (by decide +kernel) rfl rfl (Nat.le_of_ble_eq_true rfl) dX0_init_58 (fun H locs hP hD hS => ?_)
  have hP : va_P D vwCl [(h0, .inr (0, [.ref q1, .ref q2, .ref q3, .ref q4, .ref q5, .ref q6, .ref q7, .long 0, .int 0, .null])), (q1, .inl (cI, 8, .inl z0)), (q2, .inl (cI, 64, .inl z0)), (q3, .inl (cI, 32, .inl z0)), (q4, .inl (cI, 8, .inl z0)), (q5, .inl (cI, 32, .inl z0)), (q6, .inl (cI, 32, .inl z0)), (q7, .inl (cI, 160, .inl z0))] H := hP
  have hD : va_D A [(h0, .inr (0, [.ref q1, .ref q2, .ref q3, .ref q4, .ref q5, .ref q6, .ref q7, .long 0, .int 0, .null])), (q1, .inl (cI, 8, .inl z0)), (q2, .inl (cI, 64, .inl z0)), (q3, .inl (cI, 32, .inl z0)), (q4, .inl (cI, 8, .inl z0)), (q5, .inl (cI, 32, .inl z0)), (q6, .inl (cI, 32, .inl z0)), (q7, .inl (cI, 160, .inl z0))] := hD
  refine lv_aload_n hx hb dX0_init_61 rfl (lv_at hl 0 rfl) ?_
  refine lv_lconst (v := 0) hx hb dX0_init_62 (by decide) ?_
  refine va_put (D := D) (ci := 0) (v := .long 0) (ty := .long) (C := RX0) (T := TX0) (N := 10) hx hb hts hin tyX0 tyX0_ok nmX0 hown hK hP hD hS 0 rfl rfl 7 (by decide) (hts (.fieldLink RX0 31 "SignRail" "costSoFar" "J") (by decide +kernel)) (fun _ h9 => h9) rfl (by decide +kernel) rfl rfl (Nat.le_of_ble_eq_true rfl) dX0_init_63 (fun H locs hP hD hS => ?_)
  have hP : va_P D vwCl [(h0, .inr (0, [.ref q1, .ref q2, .ref q3, .ref q4, .ref q5, .ref q6, .ref q7, .long 0, .int 0, .null])), (q1, .inl (cI, 8, .inl z0)), (q2, .inl (cI, 64, .inl z0)), (q3, .inl (cI, 32, .inl z0)), (q4, .inl (cI, 8, .inl z0)), (q5, .inl (cI, 32, .inl z0)), (q6, .inl (cI, 32, .inl z0)), (q7, .inl (cI, 160, .inl z0))] H := hP
  have hD : va_D A [(h0, .inr (0, [.ref q1, .ref q2, .ref q3, .ref q4, .ref q5, .ref q6, .ref q7, .long 0, .int 0, .null])), (q1, .inl (cI, 8, .inl z0)), (q2, .inl (cI, 64, .inl z0)), (q3, .inl (cI, 32, .inl z0)), (q4, .inl (cI, 8, .inl z0)), (q5, .inl (cI, 32, .inl z0)), (q6, .inl (cI, 32, .inl z0)), (q7, .inl (cI, 160, .inl z0))] := hD
  refine lv_aload_n hx hb dX0_init_66 rfl (lv_at hl 0 rfl) ?_
  refine lv_iconst (v := nI 0) hx hb dX0_init_67 (by decide) ?_
  refine va_put (D := D) (ci := 0) (v := .int (nI 0)) (ty := .int) (C := RX0) (T := TX0) (N := 10) hx hb hts hin tyX0 tyX0_ok nmX0 hown hK hP hD hS 0 rfl rfl 8 (by decide) (hts (.fieldLink RX0 35 "SignRail" "keptGoal" "I") (by decide +kernel)) (fun _ h9 => h9) rfl (by decide +kernel) rfl rfl (Nat.le_of_ble_eq_true rfl) dX0_init_68 (fun H locs hP hD hS => ?_)
  have hP : va_P D vwCl [(h0, .inr (0, [.ref q1, .ref q2, .ref q3, .ref q4, .ref q5, .ref q6, .ref q7, .long 0, .int (nI 0), .null])), (q1, .inl (cI, 8, .inl z0)), (q2, .inl (cI, 64, .inl z0)), (q3, .inl (cI, 32, .inl z0)), (q4, .inl (cI, 8, .inl z0)), (q5, .inl (cI, 32, .inl z0)), (q6, .inl (cI, 32, .inl z0)), (q7, .inl (cI, 160, .inl z0))] H := hP
  have hD : va_D A [(h0, .inr (0, [.ref q1, .ref q2, .ref q3, .ref q4, .ref q5, .ref q6, .ref q7, .long 0, .int (nI 0), .null])), (q1, .inl (cI, 8, .inl z0)), (q2, .inl (cI, 64, .inl z0)), (q3, .inl (cI, 32, .inl z0)), (q4, .inl (cI, 8, .inl z0)), (q5, .inl (cI, 32, .inl z0)), (q6, .inl (cI, 32, .inl z0)), (q7, .inl (cI, 160, .inl z0))] := hD
  refine lv_aload_n hx hb dX0_init_71 rfl (lv_at hl 0 rfl) ?_
  refine lv_bipush (v := nI 8) hx hb dX0_init_72 (by decide) ?_
  refine n_newa (N' := 8) hx hb (hts (.arrayClass .int) (by decide +kernel)) hK 0 rfl hP hD hS hA (by decide) (Nat.le_of_ble_eq_true rfl) (Nat.le_of_ble_eq_true rfl) (Nat.le_of_ble_eq_true rfl) dX0_init_74 (fun q8 H hP hD hS => ?_)
  have hP : va_P D vwCl [(h0, .inr (0, [.ref q1, .ref q2, .ref q3, .ref q4, .ref q5, .ref q6, .ref q7, .long 0, .int (nI 0), .null])), (q1, .inl (cI, 8, .inl z0)), (q2, .inl (cI, 64, .inl z0)), (q3, .inl (cI, 32, .inl z0)), (q4, .inl (cI, 8, .inl z0)), (q5, .inl (cI, 32, .inl z0)), (q6, .inl (cI, 32, .inl z0)), (q7, .inl (cI, 160, .inl z0)), (q8, .inl (cI, 8, .inl z0))] H := hP
  have hD : va_D A [(h0, .inr (0, [.ref q1, .ref q2, .ref q3, .ref q4, .ref q5, .ref q6, .ref q7, .long 0, .int (nI 0), .null])), (q1, .inl (cI, 8, .inl z0)), (q2, .inl (cI, 64, .inl z0)), (q3, .inl (cI, 32, .inl z0)), (q4, .inl (cI, 8, .inl z0)), (q5, .inl (cI, 32, .inl z0)), (q6, .inl (cI, 32, .inl z0)), (q7, .inl (cI, 160, .inl z0)), (q8, .inl (cI, 8, .inl z0))] := hD
  refine va_putF (D := D) (ci := 0) (v := .ref q8) (ty := (.array .int)) (C := RX0) (T := TX0) (N := 10) hx hb hts hin tyX0 tyX0_ok nmX0 hown hK hP hD hS 0 rfl rfl 9 (by decide) (hts (.fieldLink RX0 39 "SignRail" "keptSteps" "[I") (by decide +kernel)) (fun _ h9 => h9) rfl hname rfl (by decide +kernel) rfl rfl (Nat.le_of_ble_eq_true rfl) dX0_init_76 (fun H locs hP hD hS => ?_)
  have hP : va_P D vwCl [(h0, .inr (0, [.ref q1, .ref q2, .ref q3, .ref q4, .ref q5, .ref q6, .ref q7, .long 0, .int (nI 0), .ref q8])), (q1, .inl (cI, 8, .inl z0)), (q2, .inl (cI, 64, .inl z0)), (q3, .inl (cI, 32, .inl z0)), (q4, .inl (cI, 8, .inl z0)), (q5, .inl (cI, 32, .inl z0)), (q6, .inl (cI, 32, .inl z0)), (q7, .inl (cI, 160, .inl z0)), (q8, .inl (cI, 8, .inl z0))] H := hP
  have hD : va_D A [(h0, .inr (0, [.ref q1, .ref q2, .ref q3, .ref q4, .ref q5, .ref q6, .ref q7, .long 0, .int (nI 0), .ref q8])), (q1, .inl (cI, 8, .inl z0)), (q2, .inl (cI, 64, .inl z0)), (q3, .inl (cI, 32, .inl z0)), (q4, .inl (cI, 8, .inl z0)), (q5, .inl (cI, 32, .inl z0)), (q6, .inl (cI, 32, .inl z0)), (q7, .inl (cI, 160, .inl z0)), (q8, .inl (cI, 8, .inl z0))] := hD
  have hP : va_P D vwCl (wx cI (k_q [h0, q1, q2, q3, q4, q5, q6, q7, q8]) z0 z0 z0 z0 z0 z0 z0 0 (nI 0) z0) H := hP
  have hD : va_D A (wx cI (k_q [h0, q1, q2, q3, q4, q5, q6, q7, q8]) z0 z0 z0 z0 z0 z0 z0 0 (nI 0) z0) := hD
  refine lv_aload_n hx hb dX0_init_79 rfl (lv_at hl 0 rfl) ?_
  refine va_get (D := D) (ci := 0) (v := .ref q2) (C := RX0) (T := TX0) (N := 10) hx hb hts hin hown hK hP 0 rfl rfl 1 (by decide) (hts (.fieldLink RX0 13 "SignRail" "spaces" "[I") (by decide +kernel)) (fun _ h9 => h9) rfl dX0_init_80 ?_
  refine lv_iconst (v := (nI 1)) hx hb dX0_init_83 (by decide) ?_
  refine k_callSW (wr := [(h0, .inr (0, [.ref q1, .ref q2, .ref q3, .ref q4, .ref q5, .ref q6, .ref q7, .long 0, .int (nI 0), .ref q8])), (q1, .inl (cI, 8, .inl z0)), (q3, .inl (cI, 32, .inl z0)), (q4, .inl (cI, 8, .inl z0)), (q5, .inl (cI, 32, .inl z0)), (q6, .inl (cI, 32, .inl z0)), (q7, .inl (cI, 160, .inl z0)), (q8, .inl (cI, 8, .inl z0))]) (As := [.ref q2, .int (nI 1)]) (rest := []) ⟨hx, hb, hml, hown, hts⟩ (c_fill l D cI q2 64 z0 (nI 1) (by decide)) (va_cwS 2 hts gX0_init_J7_fill_53178 rfl rfl rfl (by decide +kernel) ⟨Nat.le_of_ble_eq_true rfl, Nat.le_of_ble_eq_true rfl⟩) k_B_bl (k_B_of (hP.sub [2] rfl) hK) rfl hl.1 rfl (Nat.le_of_ble_eq_true rfl) dX0_init_84 ⟨Nat.le_of_ble_eq_true rfl, Nat.le_of_ble_eq_true rfl⟩ hP hD hS [0, 1, 3, 4, 5, 6, 7, 8] [2] rfl rfl (fun _ => rfl) (fun u_79 H locs hu_79 hP hD hS hsz hkp => ?_)
  have hP : va_P D vwCl (wx cI (k_q [h0, q1, q2, q3, q4, q5, q6, q7, q8]) z0 (fa_fill (fun _ => nI 1) z0 64) z0 z0 z0 z0 z0 0 (nI 0) z0) H := hP.sub [0, 1, 8, 2, 3, 4, 5, 6, 7] rfl
  have hD : va_D A (wx cI (k_q [h0, q1, q2, q3, q4, q5, q6, q7, q8]) z0 (fa_fill (fun _ => nI 1) z0 64) z0 z0 z0 z0 z0 0 (nI 0) z0) := hD.sub [0, 1, 8, 2, 3, 4, 5, 6, 7] (by decide) rfl
  refine lv_aload_n hx hb dX0_init_87 rfl (lv_at hl 0 rfl) ?_
  refine va_get (D := D) (ci := 0) (v := .ref q3) (C := RX0) (T := TX0) (N := 10) hx hb hts hin hown hK hP 0 rfl rfl 2 (by decide) (hts (.fieldLink RX0 16 "SignRail" "leads" "[I") (by decide +kernel)) (fun _ h9 => h9) rfl dX0_init_88 ?_
  refine lv_iconst (v := (-1)) hx hb dX0_init_91 (by decide) ?_
  refine k_callSW (wr := [(h0, .inr (0, [.ref q1, .ref q2, .ref q3, .ref q4, .ref q5, .ref q6, .ref q7, .long 0, .int (nI 0), .ref q8])), (q1, .inl (cI, 8, .inl z0)), (q2, .inl (cI, 64, .inl (fa_fill (fun _ => nI 1) z0 64))), (q4, .inl (cI, 8, .inl z0)), (q5, .inl (cI, 32, .inl z0)), (q6, .inl (cI, 32, .inl z0)), (q7, .inl (cI, 160, .inl z0)), (q8, .inl (cI, 8, .inl z0))]) (As := [.ref q3, .int (-1)]) (rest := []) ⟨hx, hb, hml, hown, hts⟩ (c_fill l D cI q3 32 z0 (-1) (by decide)) (va_cwS 2 hts gX0_init_J7_fill_53178 rfl rfl rfl (by decide +kernel) ⟨Nat.le_of_ble_eq_true rfl, Nat.le_of_ble_eq_true rfl⟩) k_B_bl (k_B_of (hP.sub [3] rfl) hK) rfl hl.1 rfl (Nat.le_of_ble_eq_true rfl) dX0_init_92 ⟨Nat.le_of_ble_eq_true rfl, Nat.le_of_ble_eq_true rfl⟩ hP hD hS [0, 1, 2, 4, 5, 6, 7, 8] [3] rfl rfl (fun _ => rfl) (fun u_87 H locs hu_87 hP hD hS hsz hkp => ?_)
  have hP : va_P D vwCl (wx cI (k_q [h0, q1, q2, q3, q4, q5, q6, q7, q8]) z0 (fa_fill (fun _ => nI 1) z0 64) (fa_fill (fun _ => -1) z0 32) z0 z0 z0 z0 0 (nI 0) z0) H := hP.sub [0, 1, 2, 8, 3, 4, 5, 6, 7] rfl
  have hD : va_D A (wx cI (k_q [h0, q1, q2, q3, q4, q5, q6, q7, q8]) z0 (fa_fill (fun _ => nI 1) z0 64) (fa_fill (fun _ => -1) z0 32) z0 z0 z0 z0 0 (nI 0) z0) := hD.sub [0, 1, 2, 8, 3, 4, 5, 6, 7] (by decide) rfl
  refine W.widen (k := 8) (n := 344) (Nat.le_of_ble_eq_true rfl) (Nat.le_of_ble_eq_true rfl) ?_
  exact W.vret hx hb hr (fun t ht hW => ⟨⟨(cI, k_q [h0, q1, q2, q3, q4, q5, q6, q7, q8]), rfl, rfl, by rw [ht]; exact hP, va_K.moved hW.alike hK, hD⟩, hS.F ht⟩) hS.2.2 dX0_init_95 hlocks
set_option maxHeartbeats 4000000 in
set_option maxRecDepth 100000 in
theorem c_X1_init (l : Launch) (D : va_G) (h0 sz : Nat) (hD0 : va_D (fun _ => True) (wmF h0)) : Met l yX1_init wsX1_init ({ frames := 1, cells := 10, slots := 408, locals := 20 } : Room) (k_P [.ref h0] (fun U => U.heap.size = sz ∧ va_P D vwCl (wmF h0) U.heap ∧ va_K D vwCl [] U)) (va_Qv (fun u : ClassId × ClassId × (Nat → Nat) × (Nat → Int32) × (Nat → Int32) => u.2.2.1 0 = h0 ∧ (∀ i, i < 64 → u.2.2.2.1 i = nI 1) ∧ ∀ i, i < 32 → u.2.2.2.2 i = -1) (fun u t => va_P D vwCl (wm u.1 u.2.1 u.2.2.1 (nI 0) z0 u.2.2.2.1 u.2.2.2.2 z0 z0 z0 z0 z0 z0 0 (nI 0) (nI 0) (nI 0) z0) t.heap ∧ va_K D vwCl [(u.1, .int), (u.2.1, .boolean)] t ∧ va_D (va_A (wmF h0) sz) (wm u.1 u.2.1 u.2.2.1 (nI 0) z0 u.2.2.2.1 u.2.2.2.2 z0 z0 z0 z0 z0 z0 0 (nI 0) (nI 0) (nI 0) z0)) (va_A (wmF h0) sz)) 10 408 (va_A (wmF h0) sz) := by
  refine k_head (cc := cX1_init) (maxL := 2) (ret := none) [(0, .ref h0)] (by decide) rfl (Nat.le_of_ble_eq_true rfl) rfl ?_
  intro p e s m below meth c ls hx hb hr hml hown hts hlocks hname hB hl
  have hown : s.vm.findClass RX1 = some m.cls := hown
  have hname : meth.name = "<init>" := hname
  obtain ⟨hsz, hP, hK⟩ := hB
  subst hsz
  have hin : ∀ w ∈ wsX10, w ∈ wsX1_init := fun w h => List.mem_cons_of_mem _ (List.mem_append_right _ h)
  have hD := hD0.self (sz := s.heap.size)
  generalize hAe : va_A (wmF h0) s.heap.size = A at hD ⊢
  have hA : ∀ q : Nat, s.heap.size ≤ q → A q := fun q h => by rw [← hAe]; exact Or.inr h
  have hS : va_S A s.heap s.heap [] := va_S.rf
  have hP : va_P D vwCl (wmF h0) s.heap := hP
  refine lv_aload_n hx hb dX1_init_0 rfl (lv_at hl 0 rfl) ?_
  refine W.objInit hx hb hown (hts (.methodLink RX1 1 objectInit) (by decide +kernel)) (hts (.instanceMethod objectInit) (by decide +kernel)) (hts _ (List.mem_cons_of_mem _ (List.mem_append_left _ (List.mem_of_getElem? (i := 2) rfl)))) rfl (by rw [hml]; exact hl.1) rfl dX1_init_1 (Nat.le_of_ble_eq_true rfl) (Nat.le_of_ble_eq_true rfl) ?_
  refine W.eq (g2 := F0 m 4 ls []) rfl ?_
  refine lv_aload_n hx hb dX1_init_4 rfl (lv_at hl 0 rfl) ?_
  refine lv_bipush (v := nI 8) hx hb dX1_init_5 (by decide) ?_
  refine va_newa (atype := .int) (ty := .int) (N' := 8) (a0 := (8, .inl (fun _ => nI 0))) hx hb (hts (.arrayClass .int) (by decide +kernel)) rfl hK hP hD hS hA (fun _ => rfl) (nI_pos (by decide)) (nI_clamp (by decide)) (Nat.le_of_ble_eq_true rfl) (Nat.le_of_ble_eq_true rfl) (Nat.le_of_ble_eq_true rfl) dX1_init_7 (fun q1 cI H hK hP hD hS => ?_)
  have hK : va_K D vwCl [(cI, .int)] s := hK
  have hP : va_P D vwCl [(h0, .inr (1, [.int 0, .null, .null, .null, .null, .null, .null, .null, .null, .null, .long 0, .int 0, .int 0, .int 0, .null])), (q1, .inl (cI, 8, .inl z0))] H := hP
  have hD : va_D A [(h0, .inr (1, [.int 0, .null, .null, .null, .null, .null, .null, .null, .null, .null, .long 0, .int 0, .int 0, .int 0, .null])), (q1, .inl (cI, 8, .inl z0))] := hD
  refine va_putF (D := D) (ci := 1) (v := .ref q1) (ty := (.array .int)) (C := RX1) (T := TX1) (N := 15) hx hb hts hin tyX1 tyX1_ok nmX1 hown hK hP hD hS 0 rfl rfl 1 (by decide) (hts (.fieldLink RX1 7 "SignRailModel" "shapes" "[I") (by decide +kernel)) (fun _ h9 => h9) rfl hname rfl (by decide +kernel) rfl rfl (Nat.le_of_ble_eq_true rfl) dX1_init_9 (fun H locs hP hD hS => ?_)
  have hP : va_P D vwCl [(h0, .inr (1, [.int 0, .ref q1, .null, .null, .null, .null, .null, .null, .null, .null, .long 0, .int 0, .int 0, .int 0, .null])), (q1, .inl (cI, 8, .inl z0))] H := hP
  have hD : va_D A [(h0, .inr (1, [.int 0, .ref q1, .null, .null, .null, .null, .null, .null, .null, .null, .long 0, .int 0, .int 0, .int 0, .null])), (q1, .inl (cI, 8, .inl z0))] := hD
  refine lv_aload_n hx hb dX1_init_12 rfl (lv_at hl 0 rfl) ?_
  refine lv_bipush (v := nI 64) hx hb dX1_init_13 (by decide) ?_
  refine n_newa (N' := 64) hx hb (hts (.arrayClass .int) (by decide +kernel)) hK 0 rfl hP hD hS hA (by decide) (Nat.le_of_ble_eq_true rfl) (Nat.le_of_ble_eq_true rfl) (Nat.le_of_ble_eq_true rfl) dX1_init_15 (fun q2 H hP hD hS => ?_)
  have hP : va_P D vwCl [(h0, .inr (1, [.int 0, .ref q1, .null, .null, .null, .null, .null, .null, .null, .null, .long 0, .int 0, .int 0, .int 0, .null])), (q1, .inl (cI, 8, .inl z0)), (q2, .inl (cI, 64, .inl z0))] H := hP
  have hD : va_D A [(h0, .inr (1, [.int 0, .ref q1, .null, .null, .null, .null, .null, .null, .null, .null, .long 0, .int 0, .int 0, .int 0, .null])), (q1, .inl (cI, 8, .inl z0)), (q2, .inl (cI, 64, .inl z0))] := hD
  refine va_putF (D := D) (ci := 1) (v := .ref q2) (ty := (.array .int)) (C := RX1) (T := TX1) (N := 15) hx hb hts hin tyX1 tyX1_ok nmX1 hown hK hP hD hS 0 rfl rfl 2 (by decide) (hts (.fieldLink RX1 13 "SignRailModel" "spaces" "[I") (by decide +kernel)) (fun _ h9 => h9) rfl hname rfl (by decide +kernel) rfl rfl (Nat.le_of_ble_eq_true rfl) dX1_init_17 (fun H locs hP hD hS => ?_)
  have hP : va_P D vwCl [(h0, .inr (1, [.int 0, .ref q1, .ref q2, .null, .null, .null, .null, .null, .null, .null, .long 0, .int 0, .int 0, .int 0, .null])), (q1, .inl (cI, 8, .inl z0)), (q2, .inl (cI, 64, .inl z0))] H := hP
  have hD : va_D A [(h0, .inr (1, [.int 0, .ref q1, .ref q2, .null, .null, .null, .null, .null, .null, .null, .long 0, .int 0, .int 0, .int 0, .null])), (q1, .inl (cI, 8, .inl z0)), (q2, .inl (cI, 64, .inl z0))] := hD
  refine lv_aload_n hx hb dX1_init_20 rfl (lv_at hl 0 rfl) ?_
  refine lv_bipush (v := nI 32) hx hb dX1_init_21 (by decide) ?_
  refine n_newa (N' := 32) hx hb (hts (.arrayClass .int) (by decide +kernel)) hK 0 rfl hP hD hS hA (by decide) (Nat.le_of_ble_eq_true rfl) (Nat.le_of_ble_eq_true rfl) (Nat.le_of_ble_eq_true rfl) dX1_init_23 (fun q3 H hP hD hS => ?_)
  have hP : va_P D vwCl [(h0, .inr (1, [.int 0, .ref q1, .ref q2, .null, .null, .null, .null, .null, .null, .null, .long 0, .int 0, .int 0, .int 0, .null])), (q1, .inl (cI, 8, .inl z0)), (q2, .inl (cI, 64, .inl z0)), (q3, .inl (cI, 32, .inl z0))] H := hP
  have hD : va_D A [(h0, .inr (1, [.int 0, .ref q1, .ref q2, .null, .null, .null, .null, .null, .null, .null, .long 0, .int 0, .int 0, .int 0, .null])), (q1, .inl (cI, 8, .inl z0)), (q2, .inl (cI, 64, .inl z0)), (q3, .inl (cI, 32, .inl z0))] := hD
  refine va_putF (D := D) (ci := 1) (v := .ref q3) (ty := (.array .int)) (C := RX1) (T := TX1) (N := 15) hx hb hts hin tyX1 tyX1_ok nmX1 hown hK hP hD hS 0 rfl rfl 3 (by decide) (hts (.fieldLink RX1 16 "SignRailModel" "leads" "[I") (by decide +kernel)) (fun _ h9 => h9) rfl hname rfl (by decide +kernel) rfl rfl (Nat.le_of_ble_eq_true rfl) dX1_init_25 (fun H locs hP hD hS => ?_)
  have hP : va_P D vwCl [(h0, .inr (1, [.int 0, .ref q1, .ref q2, .ref q3, .null, .null, .null, .null, .null, .null, .long 0, .int 0, .int 0, .int 0, .null])), (q1, .inl (cI, 8, .inl z0)), (q2, .inl (cI, 64, .inl z0)), (q3, .inl (cI, 32, .inl z0))] H := hP
  have hD : va_D A [(h0, .inr (1, [.int 0, .ref q1, .ref q2, .ref q3, .null, .null, .null, .null, .null, .null, .long 0, .int 0, .int 0, .int 0, .null])), (q1, .inl (cI, 8, .inl z0)), (q2, .inl (cI, 64, .inl z0)), (q3, .inl (cI, 32, .inl z0))] := hD
  refine lv_aload_n hx hb dX1_init_28 rfl (lv_at hl 0 rfl) ?_
  refine lv_bipush (v := nI 8) hx hb dX1_init_29 (by decide) ?_
  refine n_newa (N' := 8) hx hb (hts (.arrayClass .int) (by decide +kernel)) hK 0 rfl hP hD hS hA (by decide) (Nat.le_of_ble_eq_true rfl) (Nat.le_of_ble_eq_true rfl) (Nat.le_of_ble_eq_true rfl) dX1_init_31 (fun q4 H hP hD hS => ?_)
  have hP : va_P D vwCl [(h0, .inr (1, [.int 0, .ref q1, .ref q2, .ref q3, .null, .null, .null, .null, .null, .null, .long 0, .int 0, .int 0, .int 0, .null])), (q1, .inl (cI, 8, .inl z0)), (q2, .inl (cI, 64, .inl z0)), (q3, .inl (cI, 32, .inl z0)), (q4, .inl (cI, 8, .inl z0))] H := hP
  have hD : va_D A [(h0, .inr (1, [.int 0, .ref q1, .ref q2, .ref q3, .null, .null, .null, .null, .null, .null, .long 0, .int 0, .int 0, .int 0, .null])), (q1, .inl (cI, 8, .inl z0)), (q2, .inl (cI, 64, .inl z0)), (q3, .inl (cI, 32, .inl z0)), (q4, .inl (cI, 8, .inl z0))] := hD
  refine va_putF (D := D) (ci := 1) (v := .ref q4) (ty := (.array .int)) (C := RX1) (T := TX1) (N := 15) hx hb hts hin tyX1 tyX1_ok nmX1 hown hK hP hD hS 0 rfl rfl 4 (by decide) (hts (.fieldLink RX1 19 "SignRailModel" "names" "[I") (by decide +kernel)) (fun _ h9 => h9) rfl hname rfl (by decide +kernel) rfl rfl (Nat.le_of_ble_eq_true rfl) dX1_init_33 (fun H locs hP hD hS => ?_)
  have hP : va_P D vwCl [(h0, .inr (1, [.int 0, .ref q1, .ref q2, .ref q3, .ref q4, .null, .null, .null, .null, .null, .long 0, .int 0, .int 0, .int 0, .null])), (q1, .inl (cI, 8, .inl z0)), (q2, .inl (cI, 64, .inl z0)), (q3, .inl (cI, 32, .inl z0)), (q4, .inl (cI, 8, .inl z0))] H := hP
  have hD : va_D A [(h0, .inr (1, [.int 0, .ref q1, .ref q2, .ref q3, .ref q4, .null, .null, .null, .null, .null, .long 0, .int 0, .int 0, .int 0, .null])), (q1, .inl (cI, 8, .inl z0)), (q2, .inl (cI, 64, .inl z0)), (q3, .inl (cI, 32, .inl z0)), (q4, .inl (cI, 8, .inl z0))] := hD
  refine lv_aload_n hx hb dX1_init_36 rfl (lv_at hl 0 rfl) ?_
  refine lv_bipush (v := nI 8) hx hb dX1_init_37 (by decide) ?_
  refine n_newa (N' := 8) hx hb (hts (.arrayClass .int) (by decide +kernel)) hK 0 rfl hP hD hS hA (by decide) (Nat.le_of_ble_eq_true rfl) (Nat.le_of_ble_eq_true rfl) (Nat.le_of_ble_eq_true rfl) dX1_init_39 (fun q5 H hP hD hS => ?_)
  have hP : va_P D vwCl [(h0, .inr (1, [.int 0, .ref q1, .ref q2, .ref q3, .ref q4, .null, .null, .null, .null, .null, .long 0, .int 0, .int 0, .int 0, .null])), (q1, .inl (cI, 8, .inl z0)), (q2, .inl (cI, 64, .inl z0)), (q3, .inl (cI, 32, .inl z0)), (q4, .inl (cI, 8, .inl z0)), (q5, .inl (cI, 8, .inl z0))] H := hP
  have hD : va_D A [(h0, .inr (1, [.int 0, .ref q1, .ref q2, .ref q3, .ref q4, .null, .null, .null, .null, .null, .long 0, .int 0, .int 0, .int 0, .null])), (q1, .inl (cI, 8, .inl z0)), (q2, .inl (cI, 64, .inl z0)), (q3, .inl (cI, 32, .inl z0)), (q4, .inl (cI, 8, .inl z0)), (q5, .inl (cI, 8, .inl z0))] := hD
  refine va_putF (D := D) (ci := 1) (v := .ref q5) (ty := (.array .int)) (C := RX1) (T := TX1) (N := 15) hx hb hts hin tyX1 tyX1_ok nmX1 hown hK hP hD hS 0 rfl rfl 5 (by decide) (hts (.fieldLink RX1 22 "SignRailModel" "nameMany" "[I") (by decide +kernel)) (fun _ h9 => h9) rfl hname rfl (by decide +kernel) rfl rfl (Nat.le_of_ble_eq_true rfl) dX1_init_41 (fun H locs hP hD hS => ?_)
  have hP : va_P D vwCl [(h0, .inr (1, [.int 0, .ref q1, .ref q2, .ref q3, .ref q4, .ref q5, .null, .null, .null, .null, .long 0, .int 0, .int 0, .int 0, .null])), (q1, .inl (cI, 8, .inl z0)), (q2, .inl (cI, 64, .inl z0)), (q3, .inl (cI, 32, .inl z0)), (q4, .inl (cI, 8, .inl z0)), (q5, .inl (cI, 8, .inl z0))] H := hP
  have hD : va_D A [(h0, .inr (1, [.int 0, .ref q1, .ref q2, .ref q3, .ref q4, .ref q5, .null, .null, .null, .null, .long 0, .int 0, .int 0, .int 0, .null])), (q1, .inl (cI, 8, .inl z0)), (q2, .inl (cI, 64, .inl z0)), (q3, .inl (cI, 32, .inl z0)), (q4, .inl (cI, 8, .inl z0)), (q5, .inl (cI, 8, .inl z0))] := hD
  refine lv_aload_n hx hb dX1_init_44 rfl (lv_at hl 0 rfl) ?_
  refine lv_bipush (v := nI 32) hx hb dX1_init_45 (by decide) ?_
  refine n_newa (N' := 32) hx hb (hts (.arrayClass .int) (by decide +kernel)) hK 0 rfl hP hD hS hA (by decide) (Nat.le_of_ble_eq_true rfl) (Nat.le_of_ble_eq_true rfl) (Nat.le_of_ble_eq_true rfl) dX1_init_47 (fun q6 H hP hD hS => ?_)
  have hP : va_P D vwCl [(h0, .inr (1, [.int 0, .ref q1, .ref q2, .ref q3, .ref q4, .ref q5, .null, .null, .null, .null, .long 0, .int 0, .int 0, .int 0, .null])), (q1, .inl (cI, 8, .inl z0)), (q2, .inl (cI, 64, .inl z0)), (q3, .inl (cI, 32, .inl z0)), (q4, .inl (cI, 8, .inl z0)), (q5, .inl (cI, 8, .inl z0)), (q6, .inl (cI, 32, .inl z0))] H := hP
  have hD : va_D A [(h0, .inr (1, [.int 0, .ref q1, .ref q2, .ref q3, .ref q4, .ref q5, .null, .null, .null, .null, .long 0, .int 0, .int 0, .int 0, .null])), (q1, .inl (cI, 8, .inl z0)), (q2, .inl (cI, 64, .inl z0)), (q3, .inl (cI, 32, .inl z0)), (q4, .inl (cI, 8, .inl z0)), (q5, .inl (cI, 8, .inl z0)), (q6, .inl (cI, 32, .inl z0))] := hD
  refine va_putF (D := D) (ci := 1) (v := .ref q6) (ty := (.array .int)) (C := RX1) (T := TX1) (N := 15) hx hb hts hin tyX1 tyX1_ok nmX1 hown hK hP hD hS 0 rfl rfl 6 (by decide) (hts (.fieldLink RX1 25 "SignRailModel" "texts" "[I") (by decide +kernel)) (fun _ h9 => h9) rfl hname rfl (by decide +kernel) rfl rfl (Nat.le_of_ble_eq_true rfl) dX1_init_49 (fun H locs hP hD hS => ?_)
  have hP : va_P D vwCl [(h0, .inr (1, [.int 0, .ref q1, .ref q2, .ref q3, .ref q4, .ref q5, .ref q6, .null, .null, .null, .long 0, .int 0, .int 0, .int 0, .null])), (q1, .inl (cI, 8, .inl z0)), (q2, .inl (cI, 64, .inl z0)), (q3, .inl (cI, 32, .inl z0)), (q4, .inl (cI, 8, .inl z0)), (q5, .inl (cI, 8, .inl z0)), (q6, .inl (cI, 32, .inl z0))] H := hP
  have hD : va_D A [(h0, .inr (1, [.int 0, .ref q1, .ref q2, .ref q3, .ref q4, .ref q5, .ref q6, .null, .null, .null, .long 0, .int 0, .int 0, .int 0, .null])), (q1, .inl (cI, 8, .inl z0)), (q2, .inl (cI, 64, .inl z0)), (q3, .inl (cI, 32, .inl z0)), (q4, .inl (cI, 8, .inl z0)), (q5, .inl (cI, 8, .inl z0)), (q6, .inl (cI, 32, .inl z0))] := hD
  refine lv_aload_n hx hb dX1_init_52 rfl (lv_at hl 0 rfl) ?_
  refine lv_bipush (v := nI 32) hx hb dX1_init_53 (by decide) ?_
  refine n_newa (N' := 32) hx hb (hts (.arrayClass .int) (by decide +kernel)) hK 0 rfl hP hD hS hA (by decide) (Nat.le_of_ble_eq_true rfl) (Nat.le_of_ble_eq_true rfl) (Nat.le_of_ble_eq_true rfl) dX1_init_55 (fun q7 H hP hD hS => ?_)
  have hP : va_P D vwCl [(h0, .inr (1, [.int 0, .ref q1, .ref q2, .ref q3, .ref q4, .ref q5, .ref q6, .null, .null, .null, .long 0, .int 0, .int 0, .int 0, .null])), (q1, .inl (cI, 8, .inl z0)), (q2, .inl (cI, 64, .inl z0)), (q3, .inl (cI, 32, .inl z0)), (q4, .inl (cI, 8, .inl z0)), (q5, .inl (cI, 8, .inl z0)), (q6, .inl (cI, 32, .inl z0)), (q7, .inl (cI, 32, .inl z0))] H := hP
  have hD : va_D A [(h0, .inr (1, [.int 0, .ref q1, .ref q2, .ref q3, .ref q4, .ref q5, .ref q6, .null, .null, .null, .long 0, .int 0, .int 0, .int 0, .null])), (q1, .inl (cI, 8, .inl z0)), (q2, .inl (cI, 64, .inl z0)), (q3, .inl (cI, 32, .inl z0)), (q4, .inl (cI, 8, .inl z0)), (q5, .inl (cI, 8, .inl z0)), (q6, .inl (cI, 32, .inl z0)), (q7, .inl (cI, 32, .inl z0))] := hD
  refine va_putF (D := D) (ci := 1) (v := .ref q7) (ty := (.array .int)) (C := RX1) (T := TX1) (N := 15) hx hb hts hin tyX1 tyX1_ok nmX1 hown hK hP hD hS 0 rfl rfl 7 (by decide) (hts (.fieldLink RX1 28 "SignRailModel" "many" "[I") (by decide +kernel)) (fun _ h9 => h9) rfl hname rfl (by decide +kernel) rfl rfl (Nat.le_of_ble_eq_true rfl) dX1_init_57 (fun H locs hP hD hS => ?_)
  have hP : va_P D vwCl [(h0, .inr (1, [.int 0, .ref q1, .ref q2, .ref q3, .ref q4, .ref q5, .ref q6, .ref q7, .null, .null, .long 0, .int 0, .int 0, .int 0, .null])), (q1, .inl (cI, 8, .inl z0)), (q2, .inl (cI, 64, .inl z0)), (q3, .inl (cI, 32, .inl z0)), (q4, .inl (cI, 8, .inl z0)), (q5, .inl (cI, 8, .inl z0)), (q6, .inl (cI, 32, .inl z0)), (q7, .inl (cI, 32, .inl z0))] H := hP
  have hD : va_D A [(h0, .inr (1, [.int 0, .ref q1, .ref q2, .ref q3, .ref q4, .ref q5, .ref q6, .ref q7, .null, .null, .long 0, .int 0, .int 0, .int 0, .null])), (q1, .inl (cI, 8, .inl z0)), (q2, .inl (cI, 64, .inl z0)), (q3, .inl (cI, 32, .inl z0)), (q4, .inl (cI, 8, .inl z0)), (q5, .inl (cI, 8, .inl z0)), (q6, .inl (cI, 32, .inl z0)), (q7, .inl (cI, 32, .inl z0))] := hD
  refine lv_aload_n hx hb dX1_init_60 rfl (lv_at hl 0 rfl) ?_
  refine lv_bipush (v := nI 32) hx hb dX1_init_61 (by decide) ?_
  refine n_newa (N' := 32) hx hb (hts (.arrayClass .int) (by decide +kernel)) hK 0 rfl hP hD hS hA (by decide) (Nat.le_of_ble_eq_true rfl) (Nat.le_of_ble_eq_true rfl) (Nat.le_of_ble_eq_true rfl) dX1_init_63 (fun q8 H hP hD hS => ?_)
  have hP : va_P D vwCl [(h0, .inr (1, [.int 0, .ref q1, .ref q2, .ref q3, .ref q4, .ref q5, .ref q6, .ref q7, .null, .null, .long 0, .int 0, .int 0, .int 0, .null])), (q1, .inl (cI, 8, .inl z0)), (q2, .inl (cI, 64, .inl z0)), (q3, .inl (cI, 32, .inl z0)), (q4, .inl (cI, 8, .inl z0)), (q5, .inl (cI, 8, .inl z0)), (q6, .inl (cI, 32, .inl z0)), (q7, .inl (cI, 32, .inl z0)), (q8, .inl (cI, 32, .inl z0))] H := hP
  have hD : va_D A [(h0, .inr (1, [.int 0, .ref q1, .ref q2, .ref q3, .ref q4, .ref q5, .ref q6, .ref q7, .null, .null, .long 0, .int 0, .int 0, .int 0, .null])), (q1, .inl (cI, 8, .inl z0)), (q2, .inl (cI, 64, .inl z0)), (q3, .inl (cI, 32, .inl z0)), (q4, .inl (cI, 8, .inl z0)), (q5, .inl (cI, 8, .inl z0)), (q6, .inl (cI, 32, .inl z0)), (q7, .inl (cI, 32, .inl z0)), (q8, .inl (cI, 32, .inl z0))] := hD
  refine va_putF (D := D) (ci := 1) (v := .ref q8) (ty := (.array .int)) (C := RX1) (T := TX1) (N := 15) hx hb hts hin tyX1 tyX1_ok nmX1 hown hK hP hD hS 0 rfl rfl 8 (by decide) (hts (.fieldLink RX1 31 "SignRailModel" "distances" "[I") (by decide +kernel)) (fun _ h9 => h9) rfl hname rfl (by decide +kernel) rfl rfl (Nat.le_of_ble_eq_true rfl) dX1_init_65 (fun H locs hP hD hS => ?_)
  have hP : va_P D vwCl [(h0, .inr (1, [.int 0, .ref q1, .ref q2, .ref q3, .ref q4, .ref q5, .ref q6, .ref q7, .ref q8, .null, .long 0, .int 0, .int 0, .int 0, .null])), (q1, .inl (cI, 8, .inl z0)), (q2, .inl (cI, 64, .inl z0)), (q3, .inl (cI, 32, .inl z0)), (q4, .inl (cI, 8, .inl z0)), (q5, .inl (cI, 8, .inl z0)), (q6, .inl (cI, 32, .inl z0)), (q7, .inl (cI, 32, .inl z0)), (q8, .inl (cI, 32, .inl z0))] H := hP
  have hD : va_D A [(h0, .inr (1, [.int 0, .ref q1, .ref q2, .ref q3, .ref q4, .ref q5, .ref q6, .ref q7, .ref q8, .null, .long 0, .int 0, .int 0, .int 0, .null])), (q1, .inl (cI, 8, .inl z0)), (q2, .inl (cI, 64, .inl z0)), (q3, .inl (cI, 32, .inl z0)), (q4, .inl (cI, 8, .inl z0)), (q5, .inl (cI, 8, .inl z0)), (q6, .inl (cI, 32, .inl z0)), (q7, .inl (cI, 32, .inl z0)), (q8, .inl (cI, 32, .inl z0))] := hD
  refine lv_aload_n hx hb dX1_init_68 rfl (lv_at hl 0 rfl) ?_
  refine lv_sipush (v := nI 160) hx hb dX1_init_69 (by decide) ?_
  refine n_newa (N' := 160) hx hb (hts (.arrayClass .int) (by decide +kernel)) hK 0 rfl hP hD hS hA (by decide) (Nat.le_of_ble_eq_true rfl) (Nat.le_of_ble_eq_true rfl) (Nat.le_of_ble_eq_true rfl) dX1_init_72 (fun q9 H hP hD hS => ?_)
  have hP : va_P D vwCl [(h0, .inr (1, [.int 0, .ref q1, .ref q2, .ref q3, .ref q4, .ref q5, .ref q6, .ref q7, .ref q8, .null, .long 0, .int 0, .int 0, .int 0, .null])), (q1, .inl (cI, 8, .inl z0)), (q2, .inl (cI, 64, .inl z0)), (q3, .inl (cI, 32, .inl z0)), (q4, .inl (cI, 8, .inl z0)), (q5, .inl (cI, 8, .inl z0)), (q6, .inl (cI, 32, .inl z0)), (q7, .inl (cI, 32, .inl z0)), (q8, .inl (cI, 32, .inl z0)), (q9, .inl (cI, 160, .inl z0))] H := hP
  have hD : va_D A [(h0, .inr (1, [.int 0, .ref q1, .ref q2, .ref q3, .ref q4, .ref q5, .ref q6, .ref q7, .ref q8, .null, .long 0, .int 0, .int 0, .int 0, .null])), (q1, .inl (cI, 8, .inl z0)), (q2, .inl (cI, 64, .inl z0)), (q3, .inl (cI, 32, .inl z0)), (q4, .inl (cI, 8, .inl z0)), (q5, .inl (cI, 8, .inl z0)), (q6, .inl (cI, 32, .inl z0)), (q7, .inl (cI, 32, .inl z0)), (q8, .inl (cI, 32, .inl z0)), (q9, .inl (cI, 160, .inl z0))] := hD
  refine va_putF (D := D) (ci := 1) (v := .ref q9) (ty := (.array .int)) (C := RX1) (T := TX1) (N := 15) hx hb hts hin tyX1 tyX1_ok nmX1 hown hK hP hD hS 0 rfl rfl 9 (by decide) (hts (.fieldLink RX1 34 "SignRailModel" "cuts" "[I") (by decide +kernel)) (fun _ h9 => h9) rfl hname rfl (by decide +kernel) rfl rfl (Nat.le_of_ble_eq_true rfl) dX1_init_74 (fun H locs hP hD hS => ?_)
  have hP : va_P D vwCl [(h0, .inr (1, [.int 0, .ref q1, .ref q2, .ref q3, .ref q4, .ref q5, .ref q6, .ref q7, .ref q8, .ref q9, .long 0, .int 0, .int 0, .int 0, .null])), (q1, .inl (cI, 8, .inl z0)), (q2, .inl (cI, 64, .inl z0)), (q3, .inl (cI, 32, .inl z0)), (q4, .inl (cI, 8, .inl z0)), (q5, .inl (cI, 8, .inl z0)), (q6, .inl (cI, 32, .inl z0)), (q7, .inl (cI, 32, .inl z0)), (q8, .inl (cI, 32, .inl z0)), (q9, .inl (cI, 160, .inl z0))] H := hP
  have hD : va_D A [(h0, .inr (1, [.int 0, .ref q1, .ref q2, .ref q3, .ref q4, .ref q5, .ref q6, .ref q7, .ref q8, .ref q9, .long 0, .int 0, .int 0, .int 0, .null])), (q1, .inl (cI, 8, .inl z0)), (q2, .inl (cI, 64, .inl z0)), (q3, .inl (cI, 32, .inl z0)), (q4, .inl (cI, 8, .inl z0)), (q5, .inl (cI, 8, .inl z0)), (q6, .inl (cI, 32, .inl z0)), (q7, .inl (cI, 32, .inl z0)), (q8, .inl (cI, 32, .inl z0)), (q9, .inl (cI, 160, .inl z0))] := hD
  refine lv_aload_n hx hb dX1_init_77 rfl (lv_at hl 0 rfl) ?_
  refine lv_bipush (v := nI 32) hx hb dX1_init_78 (by decide) ?_
  refine va_newa (atype := .boolean) (ty := .boolean) (N' := 32) (a0 := (32, .inl (fun _ => nI 0))) hx hb (hts (.arrayClass .boolean) (by decide +kernel)) rfl hK hP hD hS hA (fun _ => rfl) (nI_pos (by decide)) (nI_clamp (by decide)) (Nat.le_of_ble_eq_true rfl) (Nat.le_of_ble_eq_true rfl) (Nat.le_of_ble_eq_true rfl) dX1_init_80 (fun q10 cZ H hK hP hD hS => ?_)
  have hK : va_K D vwCl [(cI, .int), (cZ, .boolean)] s := hK
  have hP : va_P D vwCl [(h0, .inr (1, [.int 0, .ref q1, .ref q2, .ref q3, .ref q4, .ref q5, .ref q6, .ref q7, .ref q8, .ref q9, .long 0, .int 0, .int 0, .int 0, .null])), (q1, .inl (cI, 8, .inl z0)), (q2, .inl (cI, 64, .inl z0)), (q3, .inl (cI, 32, .inl z0)), (q4, .inl (cI, 8, .inl z0)), (q5, .inl (cI, 8, .inl z0)), (q6, .inl (cI, 32, .inl z0)), (q7, .inl (cI, 32, .inl z0)), (q8, .inl (cI, 32, .inl z0)), (q9, .inl (cI, 160, .inl z0)), (q10, .inl (cZ, 32, .inl z0))] H := hP
  have hD : va_D A [(h0, .inr (1, [.int 0, .ref q1, .ref q2, .ref q3, .ref q4, .ref q5, .ref q6, .ref q7, .ref q8, .ref q9, .long 0, .int 0, .int 0, .int 0, .null])), (q1, .inl (cI, 8, .inl z0)), (q2, .inl (cI, 64, .inl z0)), (q3, .inl (cI, 32, .inl z0)), (q4, .inl (cI, 8, .inl z0)), (q5, .inl (cI, 8, .inl z0)), (q6, .inl (cI, 32, .inl z0)), (q7, .inl (cI, 32, .inl z0)), (q8, .inl (cI, 32, .inl z0)), (q9, .inl (cI, 160, .inl z0)), (q10, .inl (cZ, 32, .inl z0))] := hD
  refine va_putF (D := D) (ci := 1) (v := .ref q10) (ty := (.array .boolean)) (C := RX1) (T := TX1) (N := 15) hx hb hts hin tyX1 tyX1_ok nmX1 hown hK hP hD hS 0 rfl rfl 14 (by decide) (hts (.fieldLink RX1 37 "SignRailModel" "isTaken" "[Z") (by decide +kernel)) (fun _ h9 => h9) rfl hname rfl (by decide +kernel) rfl rfl (Nat.le_of_ble_eq_true rfl) dX1_init_82 (fun H locs hP hD hS => ?_)
  have hP : va_P D vwCl [(h0, .inr (1, [.int 0, .ref q1, .ref q2, .ref q3, .ref q4, .ref q5, .ref q6, .ref q7, .ref q8, .ref q9, .long 0, .int 0, .int 0, .int 0, .ref q10])), (q1, .inl (cI, 8, .inl z0)), (q2, .inl (cI, 64, .inl z0)), (q3, .inl (cI, 32, .inl z0)), (q4, .inl (cI, 8, .inl z0)), (q5, .inl (cI, 8, .inl z0)), (q6, .inl (cI, 32, .inl z0)), (q7, .inl (cI, 32, .inl z0)), (q8, .inl (cI, 32, .inl z0)), (q9, .inl (cI, 160, .inl z0)), (q10, .inl (cZ, 32, .inl z0))] H := hP
  have hD : va_D A [(h0, .inr (1, [.int 0, .ref q1, .ref q2, .ref q3, .ref q4, .ref q5, .ref q6, .ref q7, .ref q8, .ref q9, .long 0, .int 0, .int 0, .int 0, .ref q10])), (q1, .inl (cI, 8, .inl z0)), (q2, .inl (cI, 64, .inl z0)), (q3, .inl (cI, 32, .inl z0)), (q4, .inl (cI, 8, .inl z0)), (q5, .inl (cI, 8, .inl z0)), (q6, .inl (cI, 32, .inl z0)), (q7, .inl (cI, 32, .inl z0)), (q8, .inl (cI, 32, .inl z0)), (q9, .inl (cI, 160, .inl z0)), (q10, .inl (cZ, 32, .inl z0))] := hD
  obtain ⟨q, hq⟩ : ∃ q, q = k_q [h0, q1, q2, q3, q4, q5, q6, q7, q8, q9, q10] := ⟨_, rfl⟩
  have hq0 : q 0 = h0 := by rw [hq]; rfl
  have hP : va_P D vwCl (wm cI cZ q (nI 0) z0 z0 z0 z0 z0 z0 z0 z0 z0 0 (nI 0) (nI 0) (nI 0) z0) H := by rw [hq]; exact hP
  have hD : va_D A (wm cI cZ q (nI 0) z0 z0 z0 z0 z0 z0 z0 z0 z0 0 (nI 0) (nI 0) (nI 0) z0) := by rw [hq]; exact hD
  have hl : lv_has ls 2 [(0, .ref (q 0))] := by rw [hq0]; exact hl
  refine lv_iconst (v := nI 0) hx hb dX1_init_85 (by decide) ?_
  refine lv_istore_n (lv' := [(1, .int (nI 0)), (0, .ref (q 0))]) hx hb dX1_init_86 rfl hl (by decide) rfl (fun ls hl => ?_)
  refine W.loopH (fun i H locs ls => ∃ (sp1 : Nat → Int32), (∀ v, v < i → sp1 v = nI 1) ∧ va_P D vwCl (wm cI cZ q (nI 0) z0 sp1 z0 z0 z0 z0 z0 z0 z0 0 (nI 0) (nI 0) (nI 0) z0) H ∧ va_D A (wm cI cZ q (nI 0) z0 sp1 z0 z0 z0 z0 z0 z0 z0 0 (nI 0) (nI 0) (nI 0) z0) ∧ va_S A s.heap H locs ∧ lv_has ls 2 [(0, .ref (q 0)), (1, .int (nI i))]) (64) (0) (by omega) ⟨z0, fun v hv => absurd hv (Nat.not_lt_zero _), hP, hD, hS, lv_sub hl [1, 0] rfl⟩ ?_
  intro i H locs ls hi_87 hI_87 ih_87
  obtain ⟨sp1, hf0_87, hP, hD, hS, hl⟩ := hI_87
  refine lv_iload_n hx hb dX1_init_87 rfl (lv_at hl 1 rfl) ?_
  refine lv_bipush (v := nI 64) hx hb dX1_init_88 (by decide) ?_
  refine n_icmp_ge (tgt := 106) hx hb dX1_init_90 (by decide) (by omega) (by omega) (fun c_90 => ?_) (fun c_90 => ?_)
  · have hi64 : i = 64 := by omega
    subst hi64
    refine lv_iconst (v := nI 0) hx hb dX1_init_106 (by decide) ?_
    refine lv_istore_n (lv' := [(1, .int (nI 0)), (0, .ref (q 0))]) hx hb dX1_init_107 rfl hl (by decide) rfl (fun ls hl => ?_)
    refine W.loopH (fun i H locs ls => ∃ (ld1 : Nat → Int32), (∀ v, v < i → ld1 v = -1) ∧ va_P D vwCl (wm cI cZ q (nI 0) z0 sp1 ld1 z0 z0 z0 z0 z0 z0 0 (nI 0) (nI 0) (nI 0) z0) H ∧ va_D A (wm cI cZ q (nI 0) z0 sp1 ld1 z0 z0 z0 z0 z0 z0 0 (nI 0) (nI 0) (nI 0) z0) ∧ va_S A s.heap H locs ∧ lv_has ls 2 [(0, .ref (q 0)), (1, .int (nI i))]) (32) (0) (by omega) ⟨z0, fun v hv => absurd hv (Nat.not_lt_zero _), hP, hD, hS, lv_sub hl [1, 0] rfl⟩ ?_
    intro i H locs ls hi_108 hI_108 ih_108
    obtain ⟨ld1, hf0_108, hP, hD, hS, hl⟩ := hI_108
    refine lv_iload_n hx hb dX1_init_108 rfl (lv_at hl 1 rfl) ?_
    refine lv_bipush (v := nI 32) hx hb dX1_init_109 (by decide) ?_
    refine n_icmp_ge (tgt := 127) hx hb dX1_init_111 (by decide) (by omega) (by omega) (fun c_111 => ?_) (fun c_111 => ?_)
    · have hi32 : i = 32 := by omega
      subst hi32
      refine W.widen (k := 10) (n := 408) (Nat.le_of_ble_eq_true rfl) (Nat.le_of_ble_eq_true rfl) ?_
      exact W.vret hx hb hr (fun t ht hW => ⟨⟨(cI, cZ, q, sp1, ld1), rfl, ⟨hq0, hf0_87, hf0_108⟩, by rw [ht]; exact hP, va_K.moved hW.alike hK, hD⟩, hS.F ht⟩) hS.2.2 dX1_init_127 hlocks
    · refine lv_aload_n hx hb dX1_init_114 rfl (lv_at hl 0 rfl) ?_
      refine va_get (D := D) (ci := 1) (v := .ref (q 3)) (C := RX1) (T := TX1) (N := 15) hx hb hts hin hown hK hP 0 rfl rfl 3 (by decide) (hts (.fieldLink RX1 16 "SignRailModel" "leads" "[I") (by decide +kernel)) (fun _ h9 => h9) rfl dX1_init_115 ?_
      refine lv_iload_n hx hb dX1_init_118 rfl (lv_at hl 1 rfl) ?_
      refine lv_iconst (v := (-1)) hx hb dX1_init_119 (by decide) ?_
      refine n_iast hx hb hK hP hD hS 3 0 rfl rfl (k := i) (by omega) (Nat.le_of_ble_eq_true rfl) dX1_init_120 (fun H locs hP hD hS => ?_)
      have hP : va_P D vwCl (wm cI cZ q (nI 0) z0 sp1 (upd ld1 i (-1)) z0 z0 z0 z0 z0 z0 0 (nI 0) (nI 0) (nI 0) z0) H := hP
      have hD : va_D A (wm cI cZ q (nI 0) z0 sp1 (upd ld1 i (-1)) z0 z0 z0 z0 z0 z0 0 (nI 0) (nI 0) (nI 0) z0) := hD
      refine lv_iinc (v := nI (i + 1)) (lv' := [(1, .int (nI (i + 1))), (0, .ref (q 0))]) hx hb dX1_init_121 hl (k := 1) rfl (nI_inc _) (by decide) rfl (fun ls hl => ?_)
      refine lv_goto (tgt := 108) hx hb dX1_init_124 (by decide) ?_
      exact ih_108 _ _ _ (by omega) ⟨upd ld1 i (-1), v_upd hf0_108, hP, hD, hS, lv_sub hl [1, 0] rfl⟩
  · refine lv_aload_n hx hb dX1_init_93 rfl (lv_at hl 0 rfl) ?_
    refine va_get (D := D) (ci := 1) (v := .ref (q 2)) (C := RX1) (T := TX1) (N := 15) hx hb hts hin hown hK hP 0 rfl rfl 2 (by decide) (hts (.fieldLink RX1 13 "SignRailModel" "spaces" "[I") (by decide +kernel)) (fun _ h9 => h9) rfl dX1_init_94 ?_
    refine lv_iload_n hx hb dX1_init_97 rfl (lv_at hl 1 rfl) ?_
    refine lv_iconst (v := nI 1) hx hb dX1_init_98 (by decide) ?_
    refine n_iast hx hb hK hP hD hS 2 0 rfl rfl (k := i) (by omega) (Nat.le_of_ble_eq_true rfl) dX1_init_99 (fun H locs hP hD hS => ?_)
    have hP : va_P D vwCl (wm cI cZ q (nI 0) z0 (upd sp1 i (nI 1)) z0 z0 z0 z0 z0 z0 z0 0 (nI 0) (nI 0) (nI 0) z0) H := hP
    have hD : va_D A (wm cI cZ q (nI 0) z0 (upd sp1 i (nI 1)) z0 z0 z0 z0 z0 z0 z0 0 (nI 0) (nI 0) (nI 0) z0) := hD
    refine lv_iinc (v := nI (i + 1)) (lv' := [(1, .int (nI (i + 1))), (0, .ref (q 0))]) hx hb dX1_init_100 hl (k := 1) rfl (nI_inc _) (by decide) rfl (fun ls hl => ?_)
    refine lv_goto (tgt := 87) hx hb dX1_init_103 (by decide) ?_
    exact ih_87 _ _ _ (by omega) ⟨upd sp1 i (nI 1), v_upd hf0_87, hP, hD, hS, lv_sub hl [1, 0] rfl⟩
