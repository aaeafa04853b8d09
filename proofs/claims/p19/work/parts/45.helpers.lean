section KNEW
variable {p : Program} {l : Launch} {e : Env} {R : Room} {s : State} {m : MethodId} {args : Array Value} {below : List Frame} {meth : Method} {c : Code} {H H0 : Heap} {locs : List Loc} {cells slots : Nat} {Q : State → Prop}
variable {cc : ByteArray} {pc : Nat} {ls : Array Slot} {rest : List Value} {D : va_G} {cl : List vw_C} {tys : List (ClassId × FieldType)} {ws : va_W} {A : Nat → Prop}
theorem n_newa (hexec : p.tables.exec = Jvm.exec) (hb : c.code = cc) (harr : (Cond.arrayClass .int).before args s = true) (hK : va_K D cl tys s) (t0 : Nat) {cI : ClassId} (ht : tys[t0]? = some (cI, .int)) (hP : va_P D cl ws H) (hD : va_D A ws) (hS : va_S A H0 H locs) (hA : ∀ q, H0.size ≤ q → A q)
    {N' : Nat} (hN : N' < 2 ^ 31) (hbytes : N' * componentBytes .int ≤ 536870912) (hcells : cells + 1 ≤ R.cells) (hslots : slots + N' ≤ R.slots) (hdg : decode cc pc = .ok (.newarray .int, 2))
    (kk : ∀ (q : Nat) (H1 : Heap), va_P D cl (ws ++ [(q, .inl (cI, N', .inl (fun _ => nI 0)))]) H1 → va_D A (ws ++ [(q, .inl (cI, N', .inl (fun _ => nI 0)))]) → va_S A H0 H1 locs →
      W p l e R s m args below meth c H1 locs (cells + 1) (slots + N') Q (F0 m (pc + 2) ls (.ref q :: rest))) : W p l e R s m args below meth c H locs cells slots Q (F0 m pc ls (.int (nI N') :: rest)) := by
  refine va_newa (atype := .int) (ty := .int) (a0 := (N', .inl (fun _ => nI 0))) hexec hb harr rfl hK hP hD hS hA (fun _ => rfl) (nI_pos hN) (nI_clamp hN) hbytes hcells hslots hdg fun q cA H1 hK1 hP1 hD1 hS1 => ?_
  have h1 : va_RA s cI .int := (hK.2 t0 _ ht).2
  have h2 : va_RA s cA .int := (hK1.2 tys.length (cA, .int) (by rw [List.getElem?_append_right (Nat.le_refl _), Nat.sub_self]; rfl)).2
  have h3 : cA = cI := Option.some.inj ((show s.vm.findClass ("[" ++ FieldType.int.toString) = some cA from h2).symm.trans h1)
  subst h3
  exact kk q H1 hP1 hD1 hS1
end KNEW
abbrev k_q (L : List Nat) : Nat → Nat := fun n => L.getD n 0
abbrev wxF (h0 : Nat) : va_W := [(h0, .inr (0, [.null, .null, .null, .null, .null, .null, .null, .long 0, .int 0, .null]))]
abbrev z0 : Nat → Int32 := fun _ => nI 0
set_option maxHeartbeats 4000000 in
set_option maxRecDepth 100000 in
theorem c_X0_init (l : Launch) (D : va_G) (h0 sz : Nat) (hD0 : va_D (fun _ => True) (wxF h0)) : Met l yX0_init wsX0_init ({ frames := 1, cells := 8, slots := 344, locals := 23 } : Room) (k_P [.ref h0] (fun U => U.heap.size = sz ∧ va_P D vwCl (wxF h0) U.heap ∧ va_K D vwCl [] U)) (va_Qv (fun u : ClassId × (Nat → Nat) => u.2 0 = h0) (fun u t => va_P D vwCl (wx u.1 u.2 z0 (fa_fill (fun _ => nI 1) z0 64) (fa_fill (fun _ => -1) z0 32) z0 z0 z0 z0 0 (nI 0) z0) t.heap ∧ va_K D vwCl [(u.1, .int)] t ∧ va_D (va_A (wxF h0) sz) (wx u.1 u.2 z0 (fa_fill (fun _ => nI 1) z0 64) (fa_fill (fun _ => -1) z0 32) z0 z0 z0 z0 0 (nI 0) z0)) (va_A (wxF h0) sz)) 8 344 (va_A (wxF h0) sz) := by
  refine k_head (cc := cX0_init) (maxL := 1) (ret := none) [(0, .ref h0)] (by decide) rfl (Nat.le_of_ble_eq_true rfl) rfl ?_
  intro p e s m below meth c ls hx hb hr hml hown hts hlocks hname hB hl
  have hown : s.vm.findClass RX0 = some m.cls := hown
  have hname : meth.name = "<init>" := hname
  obtain ⟨hsz, hP, hK⟩ := hB
  subst hsz
  have hin : ∀ w ∈ wsX00, w ∈ wsX0_init := fun w h => List.mem_cons_of_mem _ (List.mem_append_right _ h)
  have hD := hD0.self (sz := s.heap.size)
  generalize hAe : va_A (wxF h0) s.heap.size = A at hD ⊢
  have hA : ∀ q : Nat, s.heap.size ≤ q → A q := fun q h => by rw [← hAe]; exact Or.inr h
  have hS : va_S A s.heap s.heap [] := va_S.rf
  have hP : va_P D vwCl (wxF h0) s.heap := hP
  refine lv_aload_n hx hb dX0_init_0 rfl (lv_at hl 0 rfl) ?_
  refine W.objInit hx hb hown (hts (.methodLink RX0 3 objectInit) (by decide +kernel)) (hts (.instanceMethod objectInit) (by decide +kernel)) (hts _ (List.mem_cons_of_mem _ (List.mem_append_left _ (List.mem_of_getElem? (i := 2) rfl)))) rfl (by rw [hml]; exact hl.1) rfl dX0_init_1 (Nat.le_of_ble_eq_true rfl) (Nat.le_of_ble_eq_true rfl) ?_
  refine W.eq (g2 := F0 m 4 ls []) rfl ?_
  refine lv_aload_n hx hb dX0_init_4 rfl (lv_at hl 0 rfl) ?_
  refine lv_bipush (v := nI 8) hx hb dX0_init_5 (by decide) ?_
  refine va_newa (atype := .int) (ty := .int) (N' := 8) (a0 := (8, .inl (fun _ => nI 0))) hx hb (hts (.arrayClass .int) (by decide +kernel)) rfl hK hP hD hS hA (fun _ => rfl) (nI_pos (by decide)) (nI_clamp (by decide)) (Nat.le_of_ble_eq_true rfl) (Nat.le_of_ble_eq_true rfl) (Nat.le_of_ble_eq_true rfl) dX0_init_7 (fun q1 cI H hK hP hD hS => ?_)
  have hK : va_K D vwCl [(cI, .int)] s := hK
  have hP : va_P D vwCl [(h0, .inr (0, [.null, .null, .null, .null, .null, .null, .null, .long 0, .int 0, .null])), (q1, .inl (cI, 8, .inl z0))] H := hP
  have hD : va_D A [(h0, .inr (0, [.null, .null, .null, .null, .null, .null, .null, .long 0, .int 0, .null])), (q1, .inl (cI, 8, .inl z0))] := hD
  refine va_putF (D := D) (ci := 0) (v := .ref q1) (ty := (.array .int)) (C := RX0) (T := TX0) (N := 10) hx hb hts hin tyX0 tyX0_ok nmX0 hown hK hP hD hS 0 rfl rfl 0 (by decide) (hts (.fieldLink RX0 9 "SignRail" "shapes" "[I") (by decide +kernel)) (fun _ h9 => h9) rfl hname rfl (by decide +kernel) rfl rfl (Nat.le_of_ble_eq_true rfl) dX0_init_9 (fun H locs hP hD hS => ?_)
  have hP : va_P D vwCl [(h0, .inr (0, [.ref q1, .null, .null, .null, .null, .null, .null, .long 0, .int 0, .null])), (q1, .inl (cI, 8, .inl z0))] H := hP
  have hD : va_D A [(h0, .inr (0, [.ref q1, .null, .null, .null, .null, .null, .null, .long 0, .int 0, .null])), (q1, .inl (cI, 8, .inl z0))] := hD
  refine lv_aload_n hx hb dX0_init_12 rfl (lv_at hl 0 rfl) ?_
  refine lv_bipush (v := nI 64) hx hb dX0_init_13 (by decide) ?_
  refine n_newa (N' := 64) hx hb (hts (.arrayClass .int) (by decide +kernel)) hK 0 rfl hP hD hS hA (by decide) (Nat.le_of_ble_eq_true rfl) (Nat.le_of_ble_eq_true rfl) (Nat.le_of_ble_eq_true rfl) dX0_init_15 (fun q2 H hP hD hS => ?_)
  have hP : va_P D vwCl [(h0, .inr (0, [.ref q1, .null, .null, .null, .null, .null, .null, .long 0, .int 0, .null])), (q1, .inl (cI, 8, .inl z0)), (q2, .inl (cI, 64, .inl z0))] H := hP
  have hD : va_D A [(h0, .inr (0, [.ref q1, .null, .null, .null, .null, .null, .null, .long 0, .int 0, .null])), (q1, .inl (cI, 8, .inl z0)), (q2, .inl (cI, 64, .inl z0))] := hD
  refine va_putF (D := D) (ci := 0) (v := .ref q2) (ty := (.array .int)) (C := RX0) (T := TX0) (N := 10) hx hb hts hin tyX0 tyX0_ok nmX0 hown hK hP hD hS 0 rfl rfl 1 (by decide) (hts (.fieldLink RX0 13 "SignRail" "spaces" "[I") (by decide +kernel)) (fun _ h9 => h9) rfl hname rfl (by decide +kernel) rfl rfl (Nat.le_of_ble_eq_true rfl) dX0_init_17 (fun H locs hP hD hS => ?_)
  have hP : va_P D vwCl [(h0, .inr (0, [.ref q1, .ref q2, .null, .null, .null, .null, .null, .long 0, .int 0, .null])), (q1, .inl (cI, 8, .inl z0)), (q2, .inl (cI, 64, .inl z0))] H := hP
  have hD : va_D A [(h0, .inr (0, [.ref q1, .ref q2, .null, .null, .null, .null, .null, .long 0, .int 0, .null])), (q1, .inl (cI, 8, .inl z0)), (q2, .inl (cI, 64, .inl z0))] := hD
  refine lv_aload_n hx hb dX0_init_20 rfl (lv_at hl 0 rfl) ?_
  refine lv_bipush (v := nI 32) hx hb dX0_init_21 (by decide) ?_
  refine n_newa (N' := 32) hx hb (hts (.arrayClass .int) (by decide +kernel)) hK 0 rfl hP hD hS hA (by decide) (Nat.le_of_ble_eq_true rfl) (Nat.le_of_ble_eq_true rfl) (Nat.le_of_ble_eq_true rfl) dX0_init_23 (fun q3 H hP hD hS => ?_)
  have hP : va_P D vwCl [(h0, .inr (0, [.ref q1, .ref q2, .null, .null, .null, .null, .null, .long 0, .int 0, .null])), (q1, .inl (cI, 8, .inl z0)), (q2, .inl (cI, 64, .inl z0)), (q3, .inl (cI, 32, .inl z0))] H := hP
  have hD : va_D A [(h0, .inr (0, [.ref q1, .ref q2, .null, .null, .null, .null, .null, .long 0, .int 0, .null])), (q1, .inl (cI, 8, .inl z0)), (q2, .inl (cI, 64, .inl z0)), (q3, .inl (cI, 32, .inl z0))] := hD
  refine va_putF (D := D) (ci := 0) (v := .ref q3) (ty := (.array .int)) (C := RX0) (T := TX0) (N := 10) hx hb hts hin tyX0 tyX0_ok nmX0 hown hK hP hD hS 0 rfl rfl 2 (by decide) (hts (.fieldLink RX0 16 "SignRail" "leads" "[I") (by decide +kernel)) (fun _ h9 => h9) rfl hname rfl (by decide +kernel) rfl rfl (Nat.le_of_ble_eq_true rfl) dX0_init_25 (fun H locs hP hD hS => ?_)
  have hP : va_P D vwCl [(h0, .inr (0, [.ref q1, .ref q2, .ref q3, .null, .null, .null, .null, .long 0, .int 0, .null])), (q1, .inl (cI, 8, .inl z0)), (q2, .inl (cI, 64, .inl z0)), (q3, .inl (cI, 32, .inl z0))] H := hP
  have hD : va_D A [(h0, .inr (0, [.ref q1, .ref q2, .ref q3, .null, .null, .null, .null, .long 0, .int 0, .null])), (q1, .inl (cI, 8, .inl z0)), (q2, .inl (cI, 64, .inl z0)), (q3, .inl (cI, 32, .inl z0))] := hD
  refine lv_aload_n hx hb dX0_init_28 rfl (lv_at hl 0 rfl) ?_
  refine lv_bipush (v := nI 8) hx hb dX0_init_29 (by decide) ?_
  refine n_newa (N' := 8) hx hb (hts (.arrayClass .int) (by decide +kernel)) hK 0 rfl hP hD hS hA (by decide) (Nat.le_of_ble_eq_true rfl) (Nat.le_of_ble_eq_true rfl) (Nat.le_of_ble_eq_true rfl) dX0_init_31 (fun q4 H hP hD hS => ?_)
  have hP : va_P D vwCl [(h0, .inr (0, [.ref q1, .ref q2, .ref q3, .null, .null, .null, .null, .long 0, .int 0, .null])), (q1, .inl (cI, 8, .inl z0)), (q2, .inl (cI, 64, .inl z0)), (q3, .inl (cI, 32, .inl z0)), (q4, .inl (cI, 8, .inl z0))] H := hP
  have hD : va_D A [(h0, .inr (0, [.ref q1, .ref q2, .ref q3, .null, .null, .null, .null, .long 0, .int 0, .null])), (q1, .inl (cI, 8, .inl z0)), (q2, .inl (cI, 64, .inl z0)), (q3, .inl (cI, 32, .inl z0)), (q4, .inl (cI, 8, .inl z0))] := hD
  refine va_putF (D := D) (ci := 0) (v := .ref q4) (ty := (.array .int)) (C := RX0) (T := TX0) (N := 10) hx hb hts hin tyX0 tyX0_ok nmX0 hown hK hP hD hS 0 rfl rfl 3 (by decide) (hts (.fieldLink RX0 19 "SignRail" "names" "[I") (by decide +kernel)) (fun _ h9 => h9) rfl hname rfl (by decide +kernel) rfl rfl (Nat.le_of_ble_eq_true rfl) dX0_init_33 (fun H locs hP hD hS => ?_)
  have hP : va_P D vwCl [(h0, .inr (0, [.ref q1, .ref q2, .ref q3, .ref q4, .null, .null, .null, .long 0, .int 0, .null])), (q1, .inl (cI, 8, .inl z0)), (q2, .inl (cI, 64, .inl z0)), (q3, .inl (cI, 32, .inl z0)), (q4, .inl (cI, 8, .inl z0))] H := hP
  have hD : va_D A [(h0, .inr (0, [.ref q1, .ref q2, .ref q3, .ref q4, .null, .null, .null, .long 0, .int 0, .null])), (q1, .inl (cI, 8, .inl z0)), (q2, .inl (cI, 64, .inl z0)), (q3, .inl (cI, 32, .inl z0)), (q4, .inl (cI, 8, .inl z0))] := hD
  refine lv_aload_n hx hb dX0_init_36 rfl (lv_at hl 0 rfl) ?_
  refine lv_bipush (v := nI 32) hx hb dX0_init_37 (by decide) ?_
  refine n_newa (N' := 32) hx hb (hts (.arrayClass .int) (by decide +kernel)) hK 0 rfl hP hD hS hA (by decide) (Nat.le_of_ble_eq_true rfl) (Nat.le_of_ble_eq_true rfl) (Nat.le_of_ble_eq_true rfl) dX0_init_39 (fun q5 H hP hD hS => ?_)
  have hP : va_P D vwCl [(h0, .inr (0, [.ref q1, .ref q2, .ref q3, .ref q4, .null, .null, .null, .long 0, .int 0, .null])), (q1, .inl (cI, 8, .inl z0)), (q2, .inl (cI, 64, .inl z0)), (q3, .inl (cI, 32, .inl z0)), (q4, .inl (cI, 8, .inl z0)), (q5, .inl (cI, 32, .inl z0))] H := hP
  have hD : va_D A [(h0, .inr (0, [.ref q1, .ref q2, .ref q3, .ref q4, .null, .null, .null, .long 0, .int 0, .null])), (q1, .inl (cI, 8, .inl z0)), (q2, .inl (cI, 64, .inl z0)), (q3, .inl (cI, 32, .inl z0)), (q4, .inl (cI, 8, .inl z0)), (q5, .inl (cI, 32, .inl z0))] := hD
  refine va_putF (D := D) (ci := 0) (v := .ref q5) (ty := (.array .int)) (C := RX0) (T := TX0) (N := 10) hx hb hts hin tyX0 tyX0_ok nmX0 hown hK hP hD hS 0 rfl rfl 4 (by decide) (hts (.fieldLink RX0 22 "SignRail" "signTexts" "[I") (by decide +kernel)) (fun _ h9 => h9) rfl hname rfl (by decide +kernel) rfl rfl (Nat.le_of_ble_eq_true rfl) dX0_init_41 (fun H locs hP hD hS => ?_)
  have hP : va_P D vwCl [(h0, .inr (0, [.ref q1, .ref q2, .ref q3, .ref q4, .ref q5, .null, .null, .long 0, .int 0, .null])), (q1, .inl (cI, 8, .inl z0)), (q2, .inl (cI, 64, .inl z0)), (q3, .inl (cI, 32, .inl z0)), (q4, .inl (cI, 8, .inl z0)), (q5, .inl (cI, 32, .inl z0))] H := hP
  have hD : va_D A [(h0, .inr (0, [.ref q1, .ref q2, .ref q3, .ref q4, .ref q5, .null, .null, .long 0, .int 0, .null])), (q1, .inl (cI, 8, .inl z0)), (q2, .inl (cI, 64, .inl z0)), (q3, .inl (cI, 32, .inl z0)), (q4, .inl (cI, 8, .inl z0)), (q5, .inl (cI, 32, .inl z0))] := hD
  refine lv_aload_n hx hb dX0_init_44 rfl (lv_at hl 0 rfl) ?_
  refine lv_bipush (v := nI 32) hx hb dX0_init_45 (by decide) ?_
  refine n_newa (N' := 32) hx hb (hts (.arrayClass .int) (by decide +kernel)) hK 0 rfl hP hD hS hA (by decide) (Nat.le_of_ble_eq_true rfl) (Nat.le_of_ble_eq_true rfl) (Nat.le_of_ble_eq_true rfl) dX0_init_47 (fun q6 H hP hD hS => ?_)
  have hP : va_P D vwCl [(h0, .inr (0, [.ref q1, .ref q2, .ref q3, .ref q4, .ref q5, .null, .null, .long 0, .int 0, .null])), (q1, .inl (cI, 8, .inl z0)), (q2, .inl (cI, 64, .inl z0)), (q3, .inl (cI, 32, .inl z0)), (q4, .inl (cI, 8, .inl z0)), (q5, .inl (cI, 32, .inl z0)), (q6, .inl (cI, 32, .inl z0))] H := hP
  have hD : va_D A [(h0, .inr (0, [.ref q1, .ref q2, .ref q3, .ref q4, .ref q5, .null, .null, .long 0, .int 0, .null])), (q1, .inl (cI, 8, .inl z0)), (q2, .inl (cI, 64, .inl z0)), (q3, .inl (cI, 32, .inl z0)), (q4, .inl (cI, 8, .inl z0)), (q5, .inl (cI, 32, .inl z0)), (q6, .inl (cI, 32, .inl z0))] := hD
  refine va_putF (D := D) (ci := 0) (v := .ref q6) (ty := (.array .int)) (C := RX0) (T := TX0) (N := 10) hx hb hts hin tyX0 tyX0_ok nmX0 hown hK hP hD hS 0 rfl rfl 5 (by decide) (hts (.fieldLink RX0 25 "SignRail" "signDistances" "[I") (by decide +kernel)) (fun _ h9 => h9) rfl hname rfl (by decide +kernel) rfl rfl (Nat.le_of_ble_eq_true rfl) dX0_init_49 (fun H locs hP hD hS => ?_)
  have hP : va_P D vwCl [(h0, .inr (0, [.ref q1, .ref q2, .ref q3, .ref q4, .ref q5, .ref q6, .null, .long 0, .int 0, .null])), (q1, .inl (cI, 8, .inl z0)), (q2, .inl (cI, 64, .inl z0)), (q3, .inl (cI, 32, .inl z0)), (q4, .inl (cI, 8, .inl z0)), (q5, .inl (cI, 32, .inl z0)), (q6, .inl (cI, 32, .inl z0))] H := hP
  have hD : va_D A [(h0, .inr (0, [.ref q1, .ref q2, .ref q3, .ref q4, .ref q5, .ref q6, .null, .long 0, .int 0, .null])), (q1, .inl (cI, 8, .inl z0)), (q2, .inl (cI, 64, .inl z0)), (q3, .inl (cI, 32, .inl z0)), (q4, .inl (cI, 8, .inl z0)), (q5, .inl (cI, 32, .inl z0)), (q6, .inl (cI, 32, .inl z0))] := hD
  refine lv_aload_n hx hb dX0_init_52 rfl (lv_at hl 0 rfl) ?_
  refine lv_sipush (v := nI 160) hx hb dX0_init_53 (by decide) ?_
  refine n_newa (N' := 160) hx hb (hts (.arrayClass .int) (by decide +kernel)) hK 0 rfl hP hD hS hA (by decide) (Nat.le_of_ble_eq_true rfl) (Nat.le_of_ble_eq_true rfl) (Nat.le_of_ble_eq_true rfl) dX0_init_56 (fun q7 H hP hD hS => ?_)
  have hP : va_P D vwCl [(h0, .inr (0, [.ref q1, .ref q2, .ref q3, .ref q4, .ref q5, .ref q6, .null, .long 0, .int 0, .null])), (q1, .inl (cI, 8, .inl z0)), (q2, .inl (cI, 64, .inl z0)), (q3, .inl (cI, 32, .inl z0)), (q4, .inl (cI, 8, .inl z0)), (q5, .inl (cI, 32, .inl z0)), (q6, .inl (cI, 32, .inl z0)), (q7, .inl (cI, 160, .inl z0))] H := hP
  have hD : va_D A [(h0, .inr (0, [.ref q1, .ref q2, .ref q3, .ref q4, .ref q5, .ref q6, .null, .long 0, .int 0, .null])), (q1, .inl (cI, 8, .inl z0)), (q2, .inl (cI, 64, .inl z0)), (q3, .inl (cI, 32, .inl z0)), (q4, .inl (cI, 8, .inl z0)), (q5, .inl (cI, 32, .inl z0)), (q6, .inl (cI, 32, .inl z0)), (q7, .inl (cI, 160, .inl z0))] := hD
  refine va_putF (D := D) (ci := 0) (v := .ref q7) (ty := (.array .int)) (C := RX0) (T := TX0) (N := 10) hx hb hts hin tyX0 tyX0_ok nmX0 hown hK hP hD hS 0 rfl rfl 6 (by decide) (hts (.fieldLink RX0 28 "SignRail" "signShapes" "[I") (by decide +kernel)) (fun _ h9 => h9) rfl hname rfl (by decide +kernel) rfl rfl (Nat.le_of_ble_eq_true rfl) dX0_init_58 (fun H locs hP hD hS => ?_)
  have hP : va_P D vwCl [(h0, .inr (0, [.ref q1, .ref q2, .ref q3, .ref q4, .ref q5, .ref q6, .ref q7, .long 0, .int 0, .null])), (q1, .inl (cI, 8, .inl z0)), (q2, .inl (cI, 64, .inl z0)), (q3, .inl (cI, 32, .inl z0)), (q4, .inl (cI, 8, .inl z0)), (q5, .inl (cI, 32, .inl z0)), (q6, .inl (cI, 32, .inl z0)), (q7, .inl (cI, 160, .inl z0))] H := hP
  have hD : va_D A [(h0, .inr (0, [.ref q1, .ref q2, .ref q3, .ref q4, .ref q5, .ref q6, .ref q7, .long 0, .int 0, .null])), (q1, .inl (cI, 8, .inl z0)), (q2, .inl (cI, 64, .inl z0)), (q3, .inl (cI, 32, .inl z0)), (q4, .inl (cI, 8, .inl z0)), (q5, .inl (cI, 32, .inl z0)), (q6, .inl (cI, 32, .inl z0)), (q7, .inl (cI, 160, .inl z0))] := hD
  refine lv_aload_n hx hb dX0_init_61 rfl (lv_at hl 0 rfl) ?_
  refine lv_lconst (v := 0) hx hb dX0_init_62 (by decide) ?_
  refine va_put (D := D) (ci := 0) (v := .long 0) (ty := .long) (C := RX0) (T := TX0) (N := 10) hx hb hts hin tyX0 tyX0_ok nmX0 hown hK hP hD hS 0 rfl rfl 7 (by decide) (hts (.fieldLink RX0 31 "SignRail" "costSoFar" "J") (by decide +kernel)) (fun _ h9 => h9) rfl (by decide +kernel) rfl rfl (Nat.le_of_ble_eq_true rfl) dX0_init_63 (fun H locs hP hD hS => ?_)
  have hP : va_P D vwCl [(h0, .inr (0, [.ref q1, .ref q2, .ref q3, .ref q4, .ref q5, .ref q6, .ref q7, .long 0, .int 0, .null])), (q1, .inl (cI, 8, .inl z0)), (q2, .inl (cI, 64, .inl z0)), (q3, .inl (cI, 32, .inl z0)), (q4, .inl (cI, 8, .inl z0)), (q5, .inl (cI, 32, .inl z0)), (q6, .inl (cI, 32, .inl z0)), (q7, .inl (cI, 160, .inl z0))] H := hP
  have hD : va_D A [(h0, .inr (0, [.ref q1, .ref q2, .ref q3, .ref q4, .ref q5, .ref q6, .ref q7, .long 0, .int 0, .null])), (q1, .inl (cI, 8, .inl z0)), (q2, .inl (cI, 64, .inl z0)), (q3, .inl (cI, 32, .inl z0)), (q4, .inl (cI, 8, .inl z0)), (q5, .inl (cI, 32, .inl z0)), (q6, .inl (cI, 32, .inl z0)), (q7, .inl (cI, 160, .inl z0))] := hD
  refine lv_aload_n hx hb dX0_init_66 rfl (lv_at hl 0 rfl) ?_
  refine lv_iconst (v := nI 0) hx hb dX0_init_67 (by decide) ?_
  refine va_put (D := D) (ci := 0) (v := .int (nI 0)) (ty := .int) (C := RX0) (T := TX0) (N := 10) hx hb hts hin tyX0 tyX0_ok nmX0 hown hK hP hD hS 0 rfl rfl 8 (by decide) (hts (.fieldLink RX0 35 "SignRail" "keptGoal" "I") (by decide +kernel)) (fun _ h9 => h9) rfl (by decide +kernel) rfl rfl (Nat.le_of_ble_eq_true rfl) dX0_init_68 (fun H locs hP hD hS => ?_)
  have hP : va_P D vwCl [(h0, .inr (0, [.ref q1, .ref q2, .ref q3, .ref q4, .ref q5, .ref q6, .ref q7, .long 0, .int (nI 0), .null])), (q1, .inl (cI, 8, .inl z0)), (q2, .inl (cI, 64, .inl z0)), (q3, .inl (cI, 32, .inl z0)), (q4, .inl (cI, 8, .inl z0)), (q5, .inl (cI, 32, .inl z0)), (q6, .inl (cI, 32, .inl z0)), (q7, .inl (cI, 160, .inl z0))] H := hP
  have hD : va_D A [(h0, .inr (0, [.ref q1, .ref q2, .ref q3, .ref q4, .ref q5, .ref q6, .ref q7, .long 0, .int (nI 0), .null])), (q1, .inl (cI, 8, .inl z0)), (q2, .inl (cI, 64, .inl z0)), (q3, .inl (cI, 32, .inl z0)), (q4, .inl (cI, 8, .inl z0)), (q5, .inl (cI, 32, .inl z0)), (q6, .inl (cI, 32, .inl z0)), (q7, .inl (cI, 160, .inl z0))] := hD
  refine lv_aload_n hx hb dX0_init_71 rfl (lv_at hl 0 rfl) ?_
  refine lv_bipush (v := nI 8) hx hb dX0_init_72 (by decide) ?_
  refine n_newa (N' := 8) hx hb (hts (.arrayClass .int) (by decide +kernel)) hK 0 rfl hP hD hS hA (by decide) (Nat.le_of_ble_eq_true rfl) (Nat.le_of_ble_eq_true rfl) (Nat.le_of_ble_eq_true rfl) dX0_init_74 (fun q8 H hP hD hS => ?_)
  have hP : va_P D vwCl [(h0, .inr (0, [.ref q1, .ref q2, .ref q3, .ref q4, .ref q5, .ref q6, .ref q7, .long 0, .int (nI 0), .null])), (q1, .inl (cI, 8, .inl z0)), (q2, .inl (cI, 64, .inl z0)), (q3, .inl (cI, 32, .inl z0)), (q4, .inl (cI, 8, .inl z0)), (q5, .inl (cI, 32, .inl z0)), (q6, .inl (cI, 32, .inl z0)), (q7, .inl (cI, 160, .inl z0)), (q8, .inl (cI, 8, .inl z0))] H := hP
  have hD : va_D A [(h0, .inr (0, [.ref q1, .ref q2, .ref q3, .ref q4, .ref q5, .ref q6, .ref q7, .long 0, .int (nI 0), .null])), (q1, .inl (cI, 8, .inl z0)), (q2, .inl (cI, 64, .inl z0)), (q3, .inl (cI, 32, .inl z0)), (q4, .inl (cI, 8, .inl z0)), (q5, .inl (cI, 32, .inl z0)), (q6, .inl (cI, 32, .inl z0)), (q7, .inl (cI, 160, .inl z0)), (q8, .inl (cI, 8, .inl z0))] := hD
  refine va_putF (D := D) (ci := 0) (v := .ref q8) (ty := (.array .int)) (C := RX0) (T := TX0) (N := 10) hx hb hts hin tyX0 tyX0_ok nmX0 hown hK hP hD hS 0 rfl rfl 9 (by decide) (hts (.fieldLink RX0 39 "SignRail" "keptSteps" "[I") (by decide +kernel)) (fun _ h9 => h9) rfl hname rfl (by decide +kernel) rfl rfl (Nat.le_of_ble_eq_true rfl) dX0_init_76 (fun H locs hP hD hS => ?_)
  have hP : va_P D vwCl [(h0, .inr (0, [.ref q1, .ref q2, .ref q3, .ref q4, .ref q5, .ref q6, .ref q7, .long 0, .int (nI 0), .ref q8])), (q1, .inl (cI, 8, .inl z0)), (q2, .inl (cI, 64, .inl z0)), (q3, .inl (cI, 32, .inl z0)), (q4, .inl (cI, 8, .inl z0)), (q5, .inl (cI, 32, .inl z0)), (q6, .inl (cI, 32, .inl z0)), (q7, .inl (cI, 160, .inl z0)), (q8, .inl (cI, 8, .inl z0))] H := hP
  have hD : va_D A [(h0, .inr (0, [.ref q1, .ref q2, .ref q3, .ref q4, .ref q5, .ref q6, .ref q7, .long 0, .int (nI 0), .ref q8])), (q1, .inl (cI, 8, .inl z0)), (q2, .inl (cI, 64, .inl z0)), (q3, .inl (cI, 32, .inl z0)), (q4, .inl (cI, 8, .inl z0)), (q5, .inl (cI, 32, .inl z0)), (q6, .inl (cI, 32, .inl z0)), (q7, .inl (cI, 160, .inl z0)), (q8, .inl (cI, 8, .inl z0))] := hD
  have hP : va_P D vwCl (wx cI (k_q [h0, q1, q2, q3, q4, q5, q6, q7, q8]) z0 z0 z0 z0 z0 z0 z0 0 (nI 0) z0) H := hP
  have hD : va_D A (wx cI (k_q [h0, q1, q2, q3, q4, q5, q6, q7, q8]) z0 z0 z0 z0 z0 z0 z0 0 (nI 0) z0) := hD
  refine lv_aload_n hx hb dX0_init_79 rfl (lv_at hl 0 rfl) ?_
  refine va_get (D := D) (ci := 0) (v := .ref q2) (C := RX0) (T := TX0) (N := 10) hx hb hts hin hown hK hP 0 rfl rfl 1 (by decide) (hts (.fieldLink RX0 13 "SignRail" "spaces" "[I") (by decide +kernel)) (fun _ h9 => h9) rfl dX0_init_80 ?_
  refine lv_iconst (v := (nI 1)) hx hb dX0_init_83 (by decide) ?_
  refine k_callSW (wr := [(h0, .inr (0, [.ref q1, .ref q2, .ref q3, .ref q4, .ref q5, .ref q6, .ref q7, .long 0, .int (nI 0), .ref q8])), (q1, .inl (cI, 8, .inl z0)), (q3, .inl (cI, 32, .inl z0)), (q4, .inl (cI, 8, .inl z0)), (q5, .inl (cI, 32, .inl z0)), (q6, .inl (cI, 32, .inl z0)), (q7, .inl (cI, 160, .inl z0)), (q8, .inl (cI, 8, .inl z0))]) (As := [.ref q2, .int (nI 1)]) (rest := []) ⟨hx, hb, hml, hown, hts⟩ (c_fill l D cI q2 64 z0 (nI 1) (by decide)) (va_cwS 2 hts gX0_init_J7_fill_53178 rfl rfl rfl (by decide +kernel) ⟨Nat.le_of_ble_eq_true rfl, Nat.le_of_ble_eq_true rfl⟩) k_B_bl (k_B_of (hP.sub [2] rfl) hK) rfl hl.1 rfl (Nat.le_of_ble_eq_true rfl) dX0_init_84 ⟨Nat.le_of_ble_eq_true rfl, Nat.le_of_ble_eq_true rfl⟩ hP hD hS [0, 1, 3, 4, 5, 6, 7, 8] [2] rfl rfl (fun _ => rfl) (fun u_79 H locs hu_79 hP hD hS hsz hkp => ?_)
  have hP : va_P D vwCl (wx cI (k_q [h0, q1, q2, q3, q4, q5, q6, q7, q8]) z0 (fa_fill (fun _ => nI 1) z0 64) z0 z0 z0 z0 z0 0 (nI 0) z0) H := hP.sub [0, 1, 8, 2, 3, 4, 5, 6, 7] rfl
  have hD : va_D A (wx cI (k_q [h0, q1, q2, q3, q4, q5, q6, q7, q8]) z0 (fa_fill (fun _ => nI 1) z0 64) z0 z0 z0 z0 z0 0 (nI 0) z0) := hD.sub [0, 1, 8, 2, 3, 4, 5, 6, 7] (by decide) rfl
  refine lv_aload_n hx hb dX0_init_87 rfl (lv_at hl 0 rfl) ?_
  refine va_get (D := D) (ci := 0) (v := .ref q3) (C := RX0) (T := TX0) (N := 10) hx hb hts hin hown hK hP 0 rfl rfl 2 (by decide) (hts (.fieldLink RX0 16 "SignRail" "leads" "[I") (by decide +kernel)) (fun _ h9 => h9) rfl dX0_init_88 ?_
  refine lv_iconst (v := (-1)) hx hb dX0_init_91 (by decide) ?_
  refine k_callSW (wr := [(h0, .inr (0, [.ref q1, .ref q2, .ref q3, .ref q4, .ref q5, .ref q6, .ref q7, .long 0, .int (nI 0), .ref q8])), (q1, .inl (cI, 8, .inl z0)), (q2, .inl (cI, 64, .inl (fa_fill (fun _ => nI 1) z0 64))), (q4, .inl (cI, 8, .inl z0)), (q5, .inl (cI, 32, .inl z0)), (q6, .inl (cI, 32, .inl z0)), (q7, .inl (cI, 160, .inl z0)), (q8, .inl (cI, 8, .inl z0))]) (As := [.ref q3, .int (-1)]) (rest := []) ⟨hx, hb, hml, hown, hts⟩ (c_fill l D cI q3 32 z0 (-1) (by decide)) (va_cwS 2 hts gX0_init_J7_fill_53178 rfl rfl rfl (by decide +kernel) ⟨Nat.le_of_ble_eq_true rfl, Nat.le_of_ble_eq_true rfl⟩) k_B_bl (k_B_of (hP.sub [3] rfl) hK) rfl hl.1 rfl (Nat.le_of_ble_eq_true rfl) dX0_init_92 ⟨Nat.le_of_ble_eq_true rfl, Nat.le_of_ble_eq_true rfl⟩ hP hD hS [0, 1, 2, 4, 5, 6, 7, 8] [3] rfl rfl (fun _ => rfl) (fun u_87 H locs hu_87 hP hD hS hsz hkp => ?_)
  have hP : va_P D vwCl (wx cI (k_q [h0, q1, q2, q3, q4, q5, q6, q7, q8]) z0 (fa_fill (fun _ => nI 1) z0 64) (fa_fill (fun _ => -1) z0 32) z0 z0 z0 z0 0 (nI 0) z0) H := hP.sub [0, 1, 2, 8, 3, 4, 5, 6, 7] rfl
  have hD : va_D A (wx cI (k_q [h0, q1, q2, q3, q4, q5, q6, q7, q8]) z0 (fa_fill (fun _ => nI 1) z0 64) (fa_fill (fun _ => -1) z0 32) z0 z0 z0 z0 0 (nI 0) z0) := hD.sub [0, 1, 2, 8, 3, 4, 5, 6, 7] (by decide) rfl
  refine W.widen (k := 8) (n := 344) (Nat.le_of_ble_eq_true rfl) (Nat.le_of_ble_eq_true rfl) ?_
  exact W.vret hx hb hr (fun t ht hW => ⟨⟨(cI, k_q [h0, q1, q2, q3, q4, q5, q6, q7, q8]), rfl, rfl, by rw [ht]; exact hP, va_K.moved hW.alike hK, hD⟩, hS.F ht⟩) hS.2.2 dX0_init_95 hlocks
theorem nI_nlt_m1 {j : Nat} (h : j < 2 ^ 31) : ¬ nI j < -1 := fun q => nI_pos h (by
  rw [fa_lt] at q ⊢
  have h1 : (-1 : Int32).toInt = -1 := by decide
  have h2 : (0 : Int32).toInt = 0 := by decide
  omega)
section KSCR
variable {p : Program} {l : Launch} {e : Env} {R : Room} {s : State} {m : MethodId} {args : Array Value} {below : List Frame} {meth : Method} {c : Code} {H : Heap} {locs : List Loc} {cells slots : Nat} {Q : State → Prop}
variable {cc : ByteArray} {pc : Nat} {ls : Array Slot} {rest : List Value}
theorem n_sld (hexec : p.tables.exec = Jvm.exec) (hb : c.code = cc) {bb L : Nat} {xs : Nat → Int32} {A : Nat → Prop} {H0 : Heap} (hX : va_X bb L xs s H0) (hbl : bb < H0.size) (hbA : ¬ A bb) (hS : va_S A H0 H locs) {k : Nat} (hk : k < L) (hL : L < 2 ^ 31) (hdg : decode cc pc = .ok (.iaload, 1))
    (kk : W p l e R s m args below meth c H locs cells slots Q (F0 m (pc + 1) ls (.int (xs k) :: rest))) : W p l e R s m args below meth c H locs cells slots Q (F0 m pc ls (.int (nI k) :: .ref bb :: rest)) :=
  va_sld hexec hb hX hbl hbA hS (vp_in_nI hk hL) hdg (by rw [nI_clamp (Nat.lt_trans hk hL)]; exact kk)
end KSCR
def k_X (b L : Nat) (xs : Nat → Int32) : State → Prop := fun U => va_X b L xs U U.heap ∧ b < U.heap.size
theorem k_X_bl {b L : Nat} {xs : Nat → Int32} : k_bl (k_X b L xs) := fun a U g mk h => ⟨va_X.moved (u := U) (U := U.calling g mk a) (Vm.Alike.refl U.vm) h.1, h.2⟩
theorem k_X_of {b L : Nat} {xs : Nat → Int32} {s : State} {A : Nat → Prop} {H : Heap} {locs : List Loc} (hX : va_X b L xs s s.heap) (hbl : b < s.heap.size) (hbA : ¬ A b) (hS : va_S A s.heap H locs) : ∀ U : State, U.heap = H → s.WarmedH U.vm → k_X b L xs U := fun U hU hW => ⟨by rw [hU]; exact va_X.moved hW.alike (hX.kept (hS.2.1 b hbl hbA)), by rw [hU]; exact Nat.lt_of_lt_of_le hbl hS.1⟩
def cellN (k : Nat) : Int32 := nI (7919 * (k + 3) * (k + 11))
def cellG (L : Nat) (xs : Nat → Int32) (k : Nat) : Int32 := if k < L then xs k else cellN k
set_option maxHeartbeats 4000000 in
set_option maxRecDepth 100000 in
theorem c_L_cell (l : Launch) (b L : Nat) (xs : Nat → Int32) (k : Nat) (hk : k < 1000) (hL : L < 1000) : k_M l yL_cell wsL_cell ({ frames := 0, cells := 0, slots := 0, locals := 0 } : Room) [.ref b, .int (nI k)] (k_X b L xs) (some (.int (cellG L xs k))) := by
  refine k_head (cc := cL_cell) (maxL := 2) (ret := some .int) [(0, .ref b), (1, .int (nI k))] (by decide) rfl (Nat.le_of_ble_eq_true rfl) rfl ?_
  intro p e s m below meth c ls hx hb hr hml hown hts hlocks hname hB hl
  obtain ⟨hX, hbl⟩ := hB
  have hbA : ¬ k_N b := fun q => q
  have hS : va_S k_N s.heap s.heap [] := va_S.rf
  refine lv_iload_n hx hb dL_cell_0 rfl (lv_at hl 1 rfl) ?_
  refine lv_aload_n hx hb dL_cell_1 rfl (lv_at hl 0 rfl) ?_
  refine va_slen hx hb hX hbl hbA hS dL_cell_2 ?_
  refine n_icmp_ge (tgt := 12) hx hb dL_cell_3 (by decide) (by omega) (by omega) (fun c_3 => ?_) (fun c_3 => ?_)
  · refine lv_sipush (v := nI 7919) hx hb dL_cell_12 (by decide) ?_
    refine lv_iload_n hx hb dL_cell_15 rfl (lv_at hl 1 rfl) ?_
    refine lv_iconst (v := nI 3) hx hb dL_cell_16 (by decide) ?_
    refine lv_iadd hx hb dL_cell_17 ?_
    refine lv_as (y := nI (k + 3)) (nI_add _ _) ?_
    refine lv_imul hx hb dL_cell_18 ?_
    refine lv_as (y := nI (7919 * (k + 3))) (pk_mul _ _) ?_
    refine lv_iload_n hx hb dL_cell_19 rfl (lv_at hl 1 rfl) ?_
    refine lv_bipush (v := nI 11) hx hb dL_cell_20 (by decide) ?_
    refine lv_iadd hx hb dL_cell_22 ?_
    refine lv_as (y := nI (k + 11)) (nI_add _ _) ?_
    refine lv_imul hx hb dL_cell_23 ?_
    refine lv_as (y := nI ((7919 * (k + 3)) * (k + 11))) (pk_mul _ _) ?_
    exact k_iret hx hb hr hlocks dL_cell_24 ((if_neg (Nat.not_lt.mpr c_3)).symm)
  · refine lv_aload_n hx hb dL_cell_6 rfl (lv_at hl 0 rfl) ?_
    refine lv_iload_n hx hb dL_cell_7 rfl (lv_at hl 1 rfl) ?_
    refine n_sld hx hb hX hbl hbA hS (k := k) (by omega) (by omega) dL_cell_8 ?_
    refine lv_goto (tgt := 24) hx hb dL_cell_9 (by decide) ?_
    exact k_iret hx hb hr hlocks dL_cell_24 ((if_pos c_3).symm)
set_option maxHeartbeats 4000000 in
set_option maxRecDepth 100000 in
theorem c_L_low (l : Launch) (v : Int32) (n : Nat) (h0 : 0 < n) (hn : n < 2 ^ 31) : k_M l yL_low wsL_low ({ frames := 0, cells := 0, slots := 0, locals := 0 } : Room) [.int v, .int (nI n)] k_tt (some (.int (nI (lowN v n)))) := by
  refine k_head (cc := cL_low) (maxL := 2) (ret := some .int) [(0, .int v), (1, .int (nI n))] (by decide) rfl (Nat.le_of_ble_eq_true rfl) rfl ?_
  intro p e s m below meth c ls hx hb hr hml hown hts hlocks hname hB hl
  have hown : s.vm.findClass RL = some m.cls := hown
  refine lv_iload_n hx hb dL_low_0 rfl (lv_at hl 0 rfl) ?_
  refine lv_ldc (own := RL) (v := 2147483647) hx hb hown (hts (.constant RL 7 (2147483647)) (by decide +kernel)) dL_low_1 ?_
  refine lv_iand hx hb dL_low_3 ?_
  refine lv_as (y := nI (v.toBitVec.toNat % 2147483648)) (low_and v) ?_
  refine lv_iload_n hx hb dL_low_4 rfl (lv_at hl 1 rfl) ?_
  refine lv_irem hx hb dL_low_5 (nI_ne0 (by omega) (by omega)) ?_
  refine lv_as (y := nI ((v.toBitVec.toNat % 2147483648) % n)) (pk_rem (by omega) (by omega) (by omega)) ?_
  exact k_iret hx hb hr hlocks dL_low_6 (rfl)
set_option maxHeartbeats 4000000 in
set_option maxRecDepth 100000 in
theorem c_L_isWalk (l : Launch) (D : va_G) (cI : ClassId) (q : Nat → Nat) (sh sp ld nm tx ds ct : Nat → Int32) (co : Int64) (kg : Int32) (ks : Nat → Int32) (p0 : Nat) (hp : p0 < 8) (t k : Nat) (hk1 : 1 ≤ k) (hk5 : k ≤ 5) (htk : t < 8 ^ k) (T K : Nat → Nat) (hG : ∀ w, w < 32 → T w < 32768 ∧ K w ≤ 5 ∧ tx w = nI (32768 * K w + T w) ∧ ∀ j, j < K w → S25 (ct (w * 5 + j))) (Ld : Nat → Nat) (hLd : ∀ w, w < 32 → Ld w ≤ 8 ∧ ld w = ix (Ld w)) (hsh : ∀ g, g < 8 → S25 (sh g)) (NT NK : Nat → Nat) (hN : ∀ p, p < 8 → NT p < 32768 ∧ NK p ≤ 5 ∧ nm p = nI (32768 * NK p + NT p)) (hKp : kpOK (fun gk gt p => sa (toldC sh ct ds K gk gt) Ld (arrC NK NT gk gt) 31 0 p tk0) kg ks) (hDt : va_D (fun _ => True) (wx cI q sh sp ld nm tx ds ct co kg ks)) : Met l yL_isWalk wsL_isWalk ({ frames := 8, cells := 0, slots := 0, locals := 192 } : Room) (k_P [.ref (q 0), .int (nI p0), .int (nI t), .int (nI k)] (k_B D (wx cI q sh sp ld nm tx ds ct co kg ks) [(cI, .int)])) (k_WQ D (wx cI q sh sp ld nm tx ds ct co kg ks) (fun u : Int32 × (Nat → Int32) => kpOK (fun gk gt p => sa (toldC sh ct ds K gk gt) Ld (arrC NK NT gk gt) 31 0 p tk0) u.1 u.2) (fun u => wx cI q sh sp ld nm tx ds ct co u.1 u.2) (fun _ => some (.int (nI 1)))) 0 0 (k_A (wx cI q sh sp ld nm tx ds ct co kg ks)) := by
  refine k_head (cc := cL_isWalk) (maxL := 7) (ret := some .boolean) [(0, .ref (q 0)), (1, .int (nI p0)), (2, .int (nI t)), (3, .int (nI k))] (by decide) rfl (Nat.le_of_ble_eq_true rfl) rfl ?_
  intro p e s m below meth c ls hx hb hr hml hown hts hlocks hname hB hl
  have hown : s.vm.findClass RL = some m.cls := hown
  obtain ⟨hP, hK⟩ := hB
  have hD := k_A_D hDt
  have hS : va_S (k_A (wx cI q sh sp ld nm tx ds ct co kg ks)) s.heap s.heap [] := va_S.rf
  have hp8 := p8_le hk5
  have ht' : t < 32768 := by omega
  refine lv_aload_n hx hb dL_isWalk_0 rfl (lv_at hl 0 rfl) ?_
  refine lv_iload_n hx hb dL_isWalk_1 rfl (lv_at hl 1 rfl) ?_
  refine lv_iload_n hx hb dL_isWalk_2 rfl (lv_at hl 2 rfl) ?_
  refine lv_iload_n hx hb dL_isWalk_3 rfl (lv_at hl 3 rfl) ?_
  refine k_callVW (wr := []) (As := [.int (nI p0), .int (nI t), .int (nI k)]) (rest := []) ⟨hx, hb, hml, hown, hts⟩ (c_X0_walk l D cI q sh sp ld nm tx ds ct co kg ks p0 hp t k hk1 hk5 htk T K hG Ld hLd hsh NT NK hN hKp (k_D_tt hD)) (cwV 3 hts gL_isWalk_X0_walk rfl rfl rfl (by decide +kernel) ⟨Nat.le_of_ble_eq_true rfl, Nat.le_of_ble_eq_true rfl⟩) k_B_bl (k_B_of hP hK) (va_recv hK hP (ci := 0) (q0 := 0) rfl rfl) rfl hl.1 rfl (Nat.le_of_ble_eq_true rfl) dL_isWalk_4 ⟨Nat.zero_le _, Nat.zero_le _⟩ hP hD hS [] [0, 1, 2, 3, 4, 5, 6, 7, 8] rfl rfl (fun _ => rfl) (fun u_4 H locs hu_4 hP hD hS hsz hkp => ?_)
  have hP : va_P D vwCl (wx cI q sh sp ld nm tx ds ct co u_4.1 u_4.2) H := hP
  have hD : va_D _ (wx cI q sh sp ld nm tx ds ct co u_4.1 u_4.2) := hD
  obtain ⟨st, hst⟩ : ∃ st, sa (toldC sh ct ds K k t) Ld (arrC NK NT k t) 31 0 p0 tk0 = st := ⟨_, rfl⟩
  refine lv_as (y := st) (hst) ?_
  refine lv_istore (lv' := [(4, .int st), (0, .ref (q 0)), (1, .int (nI p0)), (2, .int (nI t)), (3, .int (nI k))]) hx hb dL_isWalk_7 hl (by decide) rfl (fun ls hl => ?_)
  refine lv_aload_n hx hb dL_isWalk_9 rfl (lv_at hl 1 rfl) ?_
  refine lv_iload_n hx hb dL_isWalk_10 rfl (lv_at hl 2 rfl) ?_
  refine lv_iload_n hx hb dL_isWalk_11 rfl (lv_at hl 3 rfl) ?_
  refine lv_iload_n hx hb dL_isWalk_12 rfl (lv_at hl 4 rfl) ?_
  refine lv_bipush (v := nI 30) hx hb dL_isWalk_13 (by decide) ?_
  refine k_callVi (As := [.int (nI p0), .int (nI t), .int (nI k), .int (nI 30)]) (rest := []) ⟨hx, hb, hml, hown, hts⟩ (c_X0_placeBehind l D cI q sh sp ld nm tx ds ct co u_4.1 u_4.2 p0 hp t k hk1 hk5 htk 30 (by omega) T K hG Ld hLd hsh NT NK hN) (cwV 4 hts gL_isWalk_X0_placeBehind rfl rfl rfl (by decide +kernel) ⟨Nat.le_of_ble_eq_true rfl, Nat.le_of_ble_eq_true rfl⟩) k_B_bl (k_B_of hP hK) (va_recv hK hP (ci := 0) (q0 := 0) rfl rfl) rfl hl.1 rfl (Nat.le_of_ble_eq_true rfl) dL_isWalk_15 ⟨Nat.zero_le _, Nat.zero_le _⟩ ?_
  obtain ⟨la, hla⟩ : ∃ la, pl (toldC sh ct ds K k t) Ld (arrC NK NT k t) 30 p0 tk0 = la := ⟨_, rfl⟩
  have hla8 : la < 8 := by rw [← hla]; exact pl_lt8 (fun w hw => (hLd w hw).1) 30 p0 tk0 hp
  refine lv_as (y := nI la) (congrArg nI hla) ?_
  refine lv_istore (lv' := [(5, .int (nI la)), (4, .int st), (0, .ref (q 0)), (1, .int (nI p0)), (2, .int (nI t)), (3, .int (nI k))]) hx hb dL_isWalk_18 hl (by decide) rfl (fun ls hl => ?_)
  refine lv_aload_n hx hb dL_isWalk_20 rfl (lv_at hl 2 rfl) ?_
  refine lv_iload_n hx hb dL_isWalk_21 rfl (lv_at hl 3 rfl) ?_
  refine lv_iload_n hx hb dL_isWalk_22 rfl (lv_at hl 4 rfl) ?_
  refine lv_iload_n hx hb dL_isWalk_23 rfl (lv_at hl 5 rfl) ?_
  refine k_callVi (As := [.int (nI p0), .int (nI t), .int (nI k)]) (rest := []) ⟨hx, hb, hml, hown, hts⟩ (c_X0_walkBySteps l D cI q sh sp ld nm tx ds ct co u_4.1 u_4.2 p0 hp t k hk1 hk5 htk T K hG Ld hLd hsh NT NK hN) (cwV 3 hts gL_isWalk_X0_walkBySteps rfl rfl rfl (by decide +kernel) ⟨Nat.le_of_ble_eq_true rfl, Nat.le_of_ble_eq_true rfl⟩) k_B_bl (k_B_of hP hK) (va_recv hK hP (ci := 0) (q0 := 0) rfl rfl) rfl hl.1 rfl (Nat.le_of_ble_eq_true rfl) dL_isWalk_24 ⟨Nat.zero_le _, Nat.zero_le _⟩ ?_
  refine lv_as (y := st) (hst) ?_
  refine lv_iload hx hb dL_isWalk_27 (lv_at hl 1 rfl) ?_
  refine n_icmp_ne_mm (tgt := 61) hx hb dL_isWalk_29 (by decide) ?_
  rcases sa_pl (told := toldC sh ct ds K k t) (Ld := Ld) (arr := arrC NK NT k t) 31 0 p0 tk0 with hm | ⟨j, hj, hs, hpl⟩
  · have hm := hst.symm.trans hm
    subst hm
    refine lv_iload hx hb dL_isWalk_32 (lv_at hl 1 rfl) ?_
    refine lv_iconst (v := (-1)) hx hb dL_isWalk_34 (by decide) ?_
    refine lv_icmp_lt (tgt := 61) hx hb dL_isWalk_35 (by decide) (fun c_35 => ?_) (fun c_35 => ?_)
    · exact absurd c_35 (by decide)
    · refine lv_iload hx hb dL_isWalk_38 (lv_at hl 1 rfl) ?_
      refine lv_bipush (v := nI 30) hx hb dL_isWalk_40 (by decide) ?_
      refine lv_icmp_gt (tgt := 61) hx hb dL_isWalk_42 (by decide) (fun c_42 => ?_) (fun c_42 => ?_)
      · exact absurd c_42 (by decide)
      · refine lv_aload_n hx hb dL_isWalk_45 rfl (lv_at hl 2 rfl) ?_
        refine lv_iload_n hx hb dL_isWalk_46 rfl (lv_at hl 3 rfl) ?_
        refine lv_iload_n hx hb dL_isWalk_47 rfl (lv_at hl 4 rfl) ?_
        refine lv_iload_n hx hb dL_isWalk_48 rfl (lv_at hl 5 rfl) ?_
        refine lv_iconst (v := nI 0) hx hb dL_isWalk_49 (by decide) ?_
        refine k_callVi (As := [.int (nI p0), .int (nI t), .int (nI k), .int (nI 0)]) (rest := []) ⟨hx, hb, hml, hown, hts⟩ (c_X0_placeBehind l D cI q sh sp ld nm tx ds ct co u_4.1 u_4.2 p0 hp t k hk1 hk5 htk 0 (by omega) T K hG Ld hLd hsh NT NK hN) (cwV 4 hts gL_isWalk_X0_placeBehind rfl rfl rfl (by decide +kernel) ⟨Nat.le_of_ble_eq_true rfl, Nat.le_of_ble_eq_true rfl⟩) k_B_bl (k_B_of hP hK) (va_recv hK hP (ci := 0) (q0 := 0) rfl rfl) rfl hl.1 rfl (Nat.le_of_ble_eq_true rfl) dL_isWalk_50 ⟨Nat.zero_le _, Nat.zero_le _⟩ ?_
        refine lv_as (y := nI p0) (rfl) ?_
        refine lv_iload_n hx hb dL_isWalk_53 rfl (lv_at hl 3 rfl) ?_
        refine n_icmp_ne_mm (tgt := 61) hx hb dL_isWalk_54 (by decide) ?_
        refine lv_iconst (v := nI 1) hx hb dL_isWalk_57 (by decide) ?_
        refine lv_goto (tgt := 62) hx hb dL_isWalk_58 (by decide) ?_
        refine lv_istore (lv' := [(6, .int (nI 1)), (5, .int (nI la)), (4, .int (-1)), (0, .ref (q 0)), (1, .int (nI p0)), (2, .int (nI t)), (3, .int (nI k))]) hx hb dL_isWalk_62 hl (by decide) rfl (fun ls hl => ?_)
        refine lv_iload hx hb dL_isWalk_64 (lv_at hl 0 rfl) ?_
        refine n_if_eq (tgt := 104) hx hb dL_isWalk_66 (by decide) (by decide) (fun c_66 => absurd c_66 (by decide)) (fun _ => ?_)
        refine lv_iload hx hb dL_isWalk_69 (lv_at hl 1 rfl) ?_
        refine n_if_lt (tgt := 104) hx hb dL_isWalk_71 (by decide) (by omega) ?_
        refine lv_iload hx hb dL_isWalk_74 (lv_at hl 1 rfl) ?_
        refine lv_bipush (v := nI 8) hx hb dL_isWalk_76 (by decide) ?_
        refine n_icmp_ge (tgt := 104) hx hb dL_isWalk_78 (by decide) (by omega) (by omega) (fun c_78 => ?_) (fun c_78 => ?_)
        · exact absurd hla8 (by omega)
        · refine lv_iload hx hb dL_isWalk_81 (lv_at hl 2 rfl) ?_
          refine lv_if_lt (tgt := 100) hx hb dL_isWalk_83 (by decide) (fun c_83 => ?_) (fun c_83 => ?_)
          · refine lv_iconst (v := nI 1) hx hb dL_isWalk_100 (by decide) ?_
            refine lv_goto (tgt := 105) hx hb dL_isWalk_101 (by decide) ?_
            exact k_wzret u_4 true hx hb hr hlocks dL_isWalk_105 rfl hu_4 rfl hP hS (Nat.le_of_ble_eq_true rfl) (Nat.le_of_ble_eq_true rfl)
          · exact absurd (by decide) c_83
  · have hs := hst.symm.trans hs
    rw [Nat.zero_add] at hs
    subst hs
    refine lv_iload hx hb dL_isWalk_32 (lv_at hl 1 rfl) ?_
    refine lv_iconst (v := (-1)) hx hb dL_isWalk_34 (by decide) ?_
    refine lv_icmp_lt (tgt := 61) hx hb dL_isWalk_35 (by decide) (fun c_35 => ?_) (fun c_35 => ?_)
    · exact absurd c_35 (nI_nlt_m1 (by omega))
    · refine lv_iload hx hb dL_isWalk_38 (lv_at hl 1 rfl) ?_
      refine lv_bipush (v := nI 30) hx hb dL_isWalk_40 (by decide) ?_
      refine n_icmp_gt (tgt := 61) hx hb dL_isWalk_42 (by decide) (by omega) (by omega) (fun c_42 => ?_) (fun c_42 => ?_)
      · exact absurd hj (by omega)
      · refine lv_aload_n hx hb dL_isWalk_45 rfl (lv_at hl 2 rfl) ?_
        refine lv_iload_n hx hb dL_isWalk_46 rfl (lv_at hl 3 rfl) ?_
        refine lv_iload_n hx hb dL_isWalk_47 rfl (lv_at hl 4 rfl) ?_
        refine lv_iload_n hx hb dL_isWalk_48 rfl (lv_at hl 5 rfl) ?_
        refine lv_iconst (v := nI 0) hx hb dL_isWalk_49 (by decide) ?_
        refine k_callVi (As := [.int (nI p0), .int (nI t), .int (nI k), .int (nI 0)]) (rest := []) ⟨hx, hb, hml, hown, hts⟩ (c_X0_placeBehind l D cI q sh sp ld nm tx ds ct co u_4.1 u_4.2 p0 hp t k hk1 hk5 htk 0 (by omega) T K hG Ld hLd hsh NT NK hN) (cwV 4 hts gL_isWalk_X0_placeBehind rfl rfl rfl (by decide +kernel) ⟨Nat.le_of_ble_eq_true rfl, Nat.le_of_ble_eq_true rfl⟩) k_B_bl (k_B_of hP hK) (va_recv hK hP (ci := 0) (q0 := 0) rfl rfl) rfl hl.1 rfl (Nat.le_of_ble_eq_true rfl) dL_isWalk_50 ⟨Nat.zero_le _, Nat.zero_le _⟩ ?_
        refine lv_as (y := nI p0) (rfl) ?_
        refine lv_iload_n hx hb dL_isWalk_53 rfl (lv_at hl 3 rfl) ?_
        refine n_icmp_ne_mm (tgt := 61) hx hb dL_isWalk_54 (by decide) ?_
        refine lv_iconst (v := nI 1) hx hb dL_isWalk_57 (by decide) ?_
        refine lv_goto (tgt := 62) hx hb dL_isWalk_58 (by decide) ?_
        refine lv_istore (lv' := [(6, .int (nI 1)), (5, .int (nI la)), (4, .int (nI j)), (0, .ref (q 0)), (1, .int (nI p0)), (2, .int (nI t)), (3, .int (nI k))]) hx hb dL_isWalk_62 hl (by decide) rfl (fun ls hl => ?_)
        refine lv_iload hx hb dL_isWalk_64 (lv_at hl 0 rfl) ?_
        refine n_if_eq (tgt := 104) hx hb dL_isWalk_66 (by decide) (by decide) (fun c_66 => absurd c_66 (by decide)) (fun _ => ?_)
        refine lv_iload hx hb dL_isWalk_69 (lv_at hl 1 rfl) ?_
        refine n_if_lt (tgt := 104) hx hb dL_isWalk_71 (by decide) (by omega) ?_
        refine lv_iload hx hb dL_isWalk_74 (lv_at hl 1 rfl) ?_
        refine lv_bipush (v := nI 8) hx hb dL_isWalk_76 (by decide) ?_
        refine n_icmp_ge (tgt := 104) hx hb dL_isWalk_78 (by decide) (by omega) (by omega) (fun c_78 => ?_) (fun c_78 => ?_)
        · exact absurd hla8 (by omega)
        · refine lv_iload hx hb dL_isWalk_81 (lv_at hl 2 rfl) ?_
          refine n_if_lt (tgt := 100) hx hb dL_isWalk_83 (by decide) (by omega) ?_
          refine lv_aload_n hx hb dL_isWalk_86 rfl (lv_at hl 3 rfl) ?_
          refine lv_iload_n hx hb dL_isWalk_87 rfl (lv_at hl 4 rfl) ?_
          refine lv_iload_n hx hb dL_isWalk_88 rfl (lv_at hl 5 rfl) ?_
          refine lv_iload_n hx hb dL_isWalk_89 rfl (lv_at hl 6 rfl) ?_
          refine lv_iload hx hb dL_isWalk_90 (lv_at hl 2 rfl) ?_
          refine k_callVi (As := [.int (nI p0), .int (nI t), .int (nI k), .int (nI j)]) (rest := []) ⟨hx, hb, hml, hown, hts⟩ (c_X0_placeBehind l D cI q sh sp ld nm tx ds ct co u_4.1 u_4.2 p0 hp t k hk1 hk5 htk j (by omega) T K hG Ld hLd hsh NT NK hN) (cwV 4 hts gL_isWalk_X0_placeBehind rfl rfl rfl (by decide +kernel) ⟨Nat.le_of_ble_eq_true rfl, Nat.le_of_ble_eq_true rfl⟩) k_B_bl (k_B_of hP hK) (va_recv hK hP (ci := 0) (q0 := 0) rfl rfl) rfl hl.1 rfl (Nat.le_of_ble_eq_true rfl) dL_isWalk_92 ⟨Nat.zero_le _, Nat.zero_le _⟩ ?_
          refine lv_as (y := nI la) (congrArg nI ((hpl 30 (by omega)).symm.trans hla)) ?_
          refine lv_iload hx hb dL_isWalk_95 (lv_at hl 1 rfl) ?_
          refine n_icmp_ne_mm (tgt := 104) hx hb dL_isWalk_97 (by decide) ?_
          refine lv_iconst (v := nI 1) hx hb dL_isWalk_100 (by decide) ?_
          refine lv_goto (tgt := 105) hx hb dL_isWalk_101 (by decide) ?_
          exact k_wzret u_4 true hx hb hr hlocks dL_isWalk_105 rfl hu_4 rfl hP hS (Nat.le_of_ble_eq_true rfl) (Nat.le_of_ble_eq_true rfl)
set_option maxHeartbeats 4000000 in
set_option maxRecDepth 100000 in
theorem c_L_areGlyphs (l : Launch) (D : va_G) (cI : ClassId) (q : Nat → Nat) (sh sp ld nm tx ds ct : Nat → Int32) (co : Int64) (kg : Int32) (ks : Nat → Int32) (i j : Nat) (hi : i < 8) (hj : j < 8) (hsh : ∀ g, g < 8 → S25 (sh g)) : k_M l yL_areGlyphs wsL_areGlyphs ({ frames := 5, cells := 0, slots := 0, locals := 116 } : Room) [.ref (q 0), .int (nI i), .int (nI j)] (k_B D (wx cI q sh sp ld nm tx ds ct co kg ks) [(cI, .int)]) (some (.int (bI true))) := by
  refine k_head (cc := cL_areGlyphs) (maxL := 4) (ret := some .boolean) [(0, .ref (q 0)), (1, .int (nI i)), (2, .int (nI j))] (by decide) rfl (Nat.le_of_ble_eq_true rfl) rfl ?_
  intro p e s m below meth c ls hx hb hr hml hown hts hlocks hname hB hl
  have hown : s.vm.findClass RL = some m.cls := hown
  obtain ⟨hP, hK⟩ := hB
  obtain ⟨d, hd25, hd⟩ := df_rg (hsh i hi) (hsh j hj)
  obtain ⟨wk, hw1, hw5, hwk⟩ := wd_rg (hcC (sh i))
  refine lv_aload_n hx hb dL_areGlyphs_0 rfl (lv_at hl 0 rfl) ?_
  refine lv_iload_n hx hb dL_areGlyphs_1 rfl (lv_at hl 1 rfl) ?_
  refine lv_iload_n hx hb dL_areGlyphs_2 rfl (lv_at hl 2 rfl) ?_
  refine k_callVi (As := [.int (nI i), .int (nI j)]) (rest := []) ⟨hx, hb, hml, hown, hts⟩ (c_X0_difference l D cI q sh sp ld nm tx ds ct co kg ks i j (by omega) (by omega) hsh) (cwV 2 hts gL_areGlyphs_X0_difference rfl rfl rfl (by decide +kernel) ⟨Nat.le_of_ble_eq_true rfl, Nat.le_of_ble_eq_true rfl⟩) k_B_bl (k_B_of hP hK) (va_recv hK hP (ci := 0) (q0 := 0) rfl rfl) rfl hl.1 rfl (Nat.le_of_ble_eq_true rfl) dL_areGlyphs_3 ⟨Nat.zero_le _, Nat.zero_le _⟩ ?_
  refine lv_as (y := nI d) (hd) ?_
  refine lv_istore_n (lv' := [(3, .int (nI d)), (0, .ref (q 0)), (1, .int (nI i)), (2, .int (nI j))]) hx hb dL_areGlyphs_6 rfl hl (by decide) rfl (fun ls hl => ?_)
  refine lv_iload_n hx hb dL_areGlyphs_7 rfl (lv_at hl 0 rfl) ?_
  refine n_if_lt (tgt := 58) hx hb dL_areGlyphs_8 (by decide) (by omega) ?_
  refine lv_iload_n hx hb dL_areGlyphs_11 rfl (lv_at hl 0 rfl) ?_
  refine lv_bipush (v := nI 25) hx hb dL_areGlyphs_12 (by decide) ?_
  refine n_icmp_gt (tgt := 58) hx hb dL_areGlyphs_14 (by decide) (by omega) (by omega) (fun c_14 => ?_) (fun c_14 => ?_)
  · exact absurd hd25 (by omega)
  · refine lv_aload_n hx hb dL_areGlyphs_17 rfl (lv_at hl 1 rfl) ?_
    refine lv_iload_n hx hb dL_areGlyphs_18 rfl (lv_at hl 3 rfl) ?_
    refine lv_iload_n hx hb dL_areGlyphs_19 rfl (lv_at hl 2 rfl) ?_
    refine k_callVi (As := [.int (nI j), .int (nI i)]) (rest := []) ⟨hx, hb, hml, hown, hts⟩ (c_X0_difference l D cI q sh sp ld nm tx ds ct co kg ks j i (by omega) (by omega) hsh) (cwV 2 hts gL_areGlyphs_X0_difference rfl rfl rfl (by decide +kernel) ⟨Nat.le_of_ble_eq_true rfl, Nat.le_of_ble_eq_true rfl⟩) k_B_bl (k_B_of hP hK) (va_recv hK hP (ci := 0) (q0 := 0) rfl rfl) rfl hl.1 rfl (Nat.le_of_ble_eq_true rfl) dL_areGlyphs_20 ⟨Nat.zero_le _, Nat.zero_le _⟩ ?_
    refine lv_as (y := nI d) ((df_comm _ _).trans hd) ?_
    refine lv_iload_n hx hb dL_areGlyphs_23 rfl (lv_at hl 0 rfl) ?_
    refine n_icmp_ne_mm (tgt := 58) hx hb dL_areGlyphs_24 (by decide) ?_
    refine lv_aload_n hx hb dL_areGlyphs_27 rfl (lv_at hl 1 rfl) ?_
    refine lv_iload_n hx hb dL_areGlyphs_28 rfl (lv_at hl 2 rfl) ?_
    refine lv_iload_n hx hb dL_areGlyphs_29 rfl (lv_at hl 2 rfl) ?_
    refine k_callVi (As := [.int (nI i), .int (nI i)]) (rest := []) ⟨hx, hb, hml, hown, hts⟩ (c_X0_difference l D cI q sh sp ld nm tx ds ct co kg ks i i (by omega) (by omega) hsh) (cwV 2 hts gL_areGlyphs_X0_difference rfl rfl rfl (by decide +kernel) ⟨Nat.le_of_ble_eq_true rfl, Nat.le_of_ble_eq_true rfl⟩) k_B_bl (k_B_of hP hK) (va_recv hK hP (ci := 0) (q0 := 0) rfl rfl) rfl hl.1 rfl (Nat.le_of_ble_eq_true rfl) dL_areGlyphs_30 ⟨Nat.zero_le _, Nat.zero_le _⟩ ?_
    refine lv_as (y := nI 0) (df_self _) ?_
    refine n_if_ne (tgt := 58) hx hb dL_areGlyphs_33 (by decide) (by decide) (fun c_33 => absurd c_33 (by decide)) (fun _ => ?_)
    refine lv_aload_n hx hb dL_areGlyphs_36 rfl (lv_at hl 1 rfl) ?_
    refine lv_iload_n hx hb dL_areGlyphs_37 rfl (lv_at hl 2 rfl) ?_
    refine k_callVi (As := [.int (nI i)]) (rest := []) ⟨hx, hb, hml, hown, hts⟩ (c_X0_width l D cI q sh sp ld nm tx ds ct co kg ks i (by omega)) (cwV 1 hts gL_areGlyphs_X0_width rfl rfl rfl (by decide +kernel) ⟨Nat.le_of_ble_eq_true rfl, Nat.le_of_ble_eq_true rfl⟩) k_B_bl (k_B_of hP hK) (va_recv hK hP (ci := 0) (q0 := 0) rfl rfl) rfl hl.1 rfl (Nat.le_of_ble_eq_true rfl) dL_areGlyphs_38 ⟨Nat.zero_le _, Nat.zero_le _⟩ ?_
    refine lv_as (y := nI wk) (hwk) ?_
    refine lv_iconst (v := nI 1) hx hb dL_areGlyphs_41 (by decide) ?_
    refine n_icmp_lt (tgt := 58) hx hb dL_areGlyphs_42 (by decide) (by omega) (by omega) (fun c_42 => ?_) (fun c_42 => ?_)
    · exact absurd hw1 (by omega)
    · refine lv_aload_n hx hb dL_areGlyphs_45 rfl (lv_at hl 1 rfl) ?_
      refine lv_iload_n hx hb dL_areGlyphs_46 rfl (lv_at hl 2 rfl) ?_
      refine k_callVi (As := [.int (nI i)]) (rest := []) ⟨hx, hb, hml, hown, hts⟩ (c_X0_width l D cI q sh sp ld nm tx ds ct co kg ks i (by omega)) (cwV 1 hts gL_areGlyphs_X0_width rfl rfl rfl (by decide +kernel) ⟨Nat.le_of_ble_eq_true rfl, Nat.le_of_ble_eq_true rfl⟩) k_B_bl (k_B_of hP hK) (va_recv hK hP (ci := 0) (q0 := 0) rfl rfl) rfl hl.1 rfl (Nat.le_of_ble_eq_true rfl) dL_areGlyphs_47 ⟨Nat.zero_le _, Nat.zero_le _⟩ ?_
      refine lv_as (y := nI wk) (hwk) ?_
      refine lv_iconst (v := nI 5) hx hb dL_areGlyphs_50 (by decide) ?_
      refine n_icmp_gt (tgt := 58) hx hb dL_areGlyphs_51 (by decide) (by omega) (by omega) (fun c_51 => ?_) (fun c_51 => ?_)
      · exact absurd hw5 (by omega)
      · refine lv_iconst (v := nI 1) hx hb dL_areGlyphs_54 (by decide) ?_
        refine lv_goto (tgt := 59) hx hb dL_areGlyphs_55 (by decide) ?_
        exact k_zret hx hb hr hlocks dL_areGlyphs_59 (rfl)
