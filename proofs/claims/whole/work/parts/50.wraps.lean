section KCALLX
variable {p : Program} {l : Launch} {e : Env} {R : Room} {s : State} {m : MethodId} {args : Array Value} {below : List Frame} {meth : Method} {c : Code} {H : Heap} {locs : List Loc} {cells slots : Nat} {Q : State → Prop}
variable {y : MethodName} {bytes cc : ByteArray} {maxL nL n index pc : Nat} {ret : Option FieldType} {ws : List Cond} {rm : Room} {Ts : List Cond} {own C : String} {b : Addr} {As rest st0 : List Value} {ls : Array Slot} {B : State → Prop} {mc ms : Nat}
theorem k_callXW {S : Type} {D : va_G} {w : va_W} {px : S → Prop} {w' : S → va_W} {ans : S → Option Value} {pE : String → Prop} (F : CallFix p m c cc nL s args Ts own) (hM : vx_Met l y ws rm (k_P (.ref b :: As) B) (k_WQ D w px w' ans) (k_XC pE) mc ms (k_A w)) (cw : CallW R s args own C index y bytes maxL ret ws rm mc ms n)
    (hbl : k_bl B) (hB : ∀ U : State, U.heap = H → s.WarmedH U.vm → B U) (hrec : ∃ cellB : Cell, H[b]? = some cellB ∧ cellB.vm.isStatics = false ∧ s.vm.findClass C = some cellB.cls) (hn : As.length = n) (hsize : ls.size = nL) (hst : st0 = As.reverse ++ .ref b :: rest) (hW : (rest.map fun v => v.category).sum ≤ 8) (hdg : decode cc pc = .ok (.invokevirtual index, 3)) (hf : cells + mc ≤ R.cells ∧ slots + ms ≤ R.slots)
    {A : Nat → Prop} {H0 : Heap} {wc wr : va_W} (hP : va_P D vwCl wc H) (hD : va_D A wc) (hS : va_S A H0 H locs) (isR isC : List Nat) (hmap : (isR ++ isC).map (fun i => wc[i]?) = (wr ++ w).map some) (hnd : va_nd (isR ++ isC) = true) (hm : ∀ u, (w' u).map Prod.fst = w.map Prod.fst)
    (kx : ∀ (E : String) (ce : Cell) (q9 : Addr) (H1 : Heap) (locs1 : List Loc), pE E → va_P D vwCl wc H1 → va_S A H0 H1 locs1 → H1[q9]? = some ce → ce.vm = .none → s.vm.findClass E = some ce.cls → vx_W p l e R s m args below meth c H1 locs1 (cells + mc) (slots + ms) Q (F0 m pc ls rest) q9)
    (kk : ∀ (u : S) (H1 : Heap) (locs1 : List Loc), px u → va_P D vwCl (wr ++ w' u) H1 → va_D A (wr ++ w' u) → va_S A H0 H1 locs1 → W p l e R s m args below meth c H1 locs1 (cells + mc) (slots + ms) Q (F0 m (pc + 3) ls ((ans u).toList ++ rest))) : W p l e R s m args below meth c H locs cells slots Q (F0 m pc ls st0) := by
  subst hst
  have hDrw : va_D A (wr ++ w) := hD.sub (isR ++ isC) hnd hmap
  have hPrw : va_P D vwCl (wr ++ w) H := by
    intro k q hk
    have h1 : ((isR ++ isC).map (fun i => wc[i]?))[k]? = some (some q) := by rw [hmap, List.getElem?_map, hk]; rfl
    rw [List.getElem?_map] at h1
    cases hi : (isR ++ isC)[k]? with
    | none => rw [hi] at h1; cases h1
    | some i => rw [hi] at h1; exact hP i q (Option.some.inj h1)
  have hAA : ∀ q, k_A w q → A q := by
    rintro q ⟨k, e, hk⟩
    have h1 : (wr ++ w)[wr.length + k]? = some (q, e) := by rw [List.getElem?_append_right (Nat.le_add_right _ _), Nat.add_sub_cancel_left]; exact hk
    exact hDrw.2 _ _ h1
  intro T hT X
  rcases vx_runV (H := H) (locs := locs) (cells := cells) (slots := slots) (g := F0 m pc ls (As.reverse ++ .ref b :: rest)) (rest := rest) F hM cw ⟨k_P_bl hbl, hrec, fun U hU hW => ⟨rfl, hB U hU hW⟩⟩ rfl hn hsize rfl (lv_room hW) hdg hf T hT X with ⟨v', st₀, t, T', L, h0, X', hL, e1, e2, ⟨u, hp, hv, hP1, hF⟩, st⟩ | ⟨q, st₀, t, T', L, E, ce, h0, X', hL, e1, e2, ⟨hp, hF⟩, hce, hcv, hcl, st⟩
  · cases hv
    obtain ⟨k1, k2, k3⟩ := vx_keep h0 e1 hS (fun q _ h => hAA q h) hAA hL hF
    have hPr : va_P D vwCl wr T'.heap := by
      intro k q hk
      have h1 : (wr ++ w)[k]? = some q := by
        have hlt : k < wr.length := (List.getElem?_eq_some_iff.mp hk).1
        rw [List.getElem?_append_left hlt]; exact hk
      have h2 := hPrw k q h1
      refine h2.kept (k2 q.1 h2.lt ?_)
      rintro ⟨j, e, hj⟩
      have h3 : (wr ++ w)[wr.length + j]? = some (q.1, e) := by rw [List.getElem?_append_right (Nat.le_add_right _ _), Nat.add_sub_cancel_left]; exact hj
      have h4 := hDrw.1 k (wr.length + j) q (q.1, e) h1 h3 rfl
      have hlt : k < wr.length := (List.getElem?_eq_some_iff.mp hk).1
      omega
    have hP2 : va_P D vwCl (wr ++ w' u) T'.heap := va_P.app hPr (by rw [e1]; exact hP1)
    have hD2 : va_D A (wr ++ w' u) := k_D_map (w := wr ++ w) (by rw [List.map_append, List.map_append, hm u]) hDrw
    obtain ⟨t2, a1, b1⟩ := kk u T'.heap (locs ++ L) hp hP2 hD2 k3 T' rfl X'
    exact ⟨t2, st t2 a1, b1⟩
  · obtain ⟨k1, k2, k3⟩ := vx_keep (A1 := k_N) h0 e1 hS (fun q _ h => nomatch h) hAA hL hF
    have hP2 : va_P D vwCl wc T'.heap := fun k x hx => (hP k x hx).kept (k2 x.1 (hP k x hx).lt (fun z => nomatch z))
    obtain ⟨t2, a1, b1⟩ := kx E ce q T'.heap (locs ++ L) hp hP2 k3 (by rw [e1]; exact hce) hcv hcl T' rfl X'
    exact ⟨t2, st.trans a1, b1⟩
end KCALLX
section HEADT
variable {l : Launch} {y : MethodName} {ws ws' : List Cond} {rm : Room} {As : List Value} {B : State → Prop} {cc : ByteArray} {maxL mc ms : Nat} {ret : Option FieldType} {Qc : Array Value → State → Outcome → State → Prop} {free : Addr → Prop} {hh : List (Nat × Nat × Nat × Nat)}
theorem k_headT (lv : List (Nat × Value)) (hy : plainName y.cls = true) (hw : ws = Cond.codeWith y cc maxL ret hh :: ws') (hlen : (lg_sl As).length ≤ maxL) (hlv : lv_args 0 As = lv)
    (body : ∀ (p : Program) (e : Env) (s : State) (m : MethodId) (below : List Frame) (meth : Method) (c : Code) (ls : Array Slot), p.tables.exec = Jvm.exec → c.code = cc → meth.sig.returnType = ret → c.maxLocals = maxL → s.vm.findClass y.cls = some m.cls → (∀ w ∈ ws, w.before As.toArray s = true) → meth.locks = false → c.exceptionTable.toList = tableOf hh → B s → lv_has ls maxL lv →
      W p l e rm s m As.toArray below meth c s.heap [] 0 0 (MQ below Qc As.toArray s mc ms free) (F0 m 0 ls [])) : Met l y ws rm (k_P As B) Qc mc ms free := by
  refine va_MetW (cc := cc) (maxL := maxL) (ret := ret) (hh := hh) hy hw ?_
  intro p e s m args below meth c s₁ Bd hml hv
  obtain ⟨rfl, hB⟩ := hv
  rw [lg_entry_eq]
  have hts := atoms_spec (ws := ws) Bd.pre
  exact body p e s m below meth c _ Bd.exec Bd.bytes Bd.returns hml (findClass_of_methodNamed Bd.named) hts Bd.notSynchronized (vx_table (x := y) Bd (hts _ (by rw [hw]; exact List.mem_cons_self))) hB (hlv ▸ lv_entry As hlen)
end HEADT
def k_ncL : List (String × String) := [(k_IA, k_IO), (k_IS, k_IO), (k_IS, k_IA), (k_IO, k_IA), (k_IO, k_IS), (k_IA, k_IS)]
def k_nc : State → Prop := fun U => ∀ q ∈ k_ncL, va_Nc q.1 q.2 U
theorem k_nc_bl : k_bl k_nc := fun a U g mk h q hq => va_Nc.moved (u := U) (U := U.calling g mk a) (Vm.Alike.refl U.vm) (h q hq)
theorem k_nc_of {s : State} (h : k_nc s) : ∀ U : State, s.WarmedH U.vm → k_nc U := fun U hW q hq => va_Nc.moved hW.alike (h q hq)
theorem k_en_bl {B : State → Prop} (h : k_bl B) : k_bl (fun U => B U ∧ k_ex U ∧ k_nc U) := fun a U g mk q => ⟨h a U g mk q.1, k_ex_bl a U g mk q.2.1, k_nc_bl a U g mk q.2.2⟩
abbrev wo (o : Nat) (cJ : ClassId) (f : Nat → Int64) : Nat × va_E := (o, .inl (cJ, 1, .inr (.inl f)))
def bL (b : Bool) : Int64 := if b then 1 else 0
theorem vp_updL_0 (f : Nat → Int64) (x : Int64) : vp_updL f 0 x 0 = x := by simp [vp_updL]
theorem lw_or0 {α : Type} {u : Option α} {c : Nat} {P : α → Prop} (h : u.elim (c ≠ 0) (fun v => c = 0 ∧ P v)) : (u = none ∧ c ≠ 0) ∨ ∃ v, u = some v ∧ c = 0 ∧ P v := by
  cases u with
  | none => exact Or.inl ⟨rfl, h⟩
  | some v => exact Or.inr ⟨v, rfl, h⟩
set_option maxHeartbeats 4000000 in
set_option maxRecDepth 100000 in
theorem c_L_stroke (l : Launch) (hst : l.stackTraces = false) (D : va_G) (cI : ClassId) (q : Nat → Nat) (sh sp ld nm tx ds ct : Nat → Int32) (co : Int64) (kg : Int32) (ks : Nat → Int32) (g a b c0 d0 bk : Int32) (hsh : ∀ g, g < 8 → S25 (sh g)) (o : Nat) (cJ : ClassId) (f : Nat → Int64) (hDt : va_D (fun _ => True) ((wx cI q sh sp ld nm tx ds ct co kg ks) ++ [wo o cJ f])) : Met l yL_stroke wsL_stroke ({ frames := 8, cells := 8, slots := 48, locals := 144 } : Room) (k_P [.ref (q 0), .int g, .int a, .int b, .int c0, .int d0, .int bk, .ref o] (fun U => k_B D ((wx cI q sh sp ld nm tx ds ct co kg ks) ++ [wo o cJ f]) [(cI, .int), (cJ, .long)] U ∧ k_ex U ∧ k_nc U)) (k_WQ D ((wx cI q sh sp ld nm tx ds ct co kg ks) ++ [wo o cJ f]) (fun u : Option (Nat × Nat × Nat × Nat × Nat) => u.elim (cd2 (inB g 8) (lnB a b c0 d0) ≠ 0) (fun u => cd2 (inB g 8) (lnB a b c0 d0) = 0 ∧ u.1 < 8 ∧ g = nI u.1 ∧ u.2.1 < 5 ∧ u.2.2.1 < 5 ∧ u.2.2.2.1 < 5 ∧ u.2.2.2.2 < 5 ∧ a = nI u.2.1 ∧ b = nI u.2.2.1 ∧ c0 = nI u.2.2.2.1 ∧ d0 = nI u.2.2.2.2 ∧ lnK u.2.1 u.2.2.1 u.2.2.2.1 u.2.2.2.2 = true)) (fun u => u.elim (wx cI q sh sp ld nm tx ds ct co kg ks) (fun u => wx cI q (upd sh u.1 (stk bk (sh u.1) (lcN u.2.1 u.2.2.1 u.2.2.2.1 u.2.2.2.2))) sp ld nm tx ds ct co (nI 0) ks) ++ [wo o cJ (u.elim f (fun u => vp_updL f 0 ((df (sh u.1) (stk bk (sh u.1) (lcN u.2.1 u.2.2.1 u.2.2.2.1 u.2.2.2.2))).toInt64)))]) (fun u => some (.int (nI (u.elim (cd2 (inB g 8) (lnB a b c0 d0)) (fun _ => 0)))))) 8 48 (k_A ((wx cI q sh sp ld nm tx ds ct co kg ks) ++ [wo o cJ f])) := by
  refine k_headT (cc := cL_stroke) (maxL := 9) (ret := some .int) (hh := [(0, 18, 21, 13), (0, 18, 25, 15)]) [(0, .ref (q 0)), (1, .int g), (2, .int a), (3, .int b), (4, .int c0), (5, .int d0), (6, .int bk), (7, .ref o)] (by decide) rfl (Nat.le_of_ble_eq_true rfl) rfl ?_
  intro p e s m below meth c ls hx hb hr hml hown hts hlocks htab hB hl
  have hown : s.vm.findClass RL = some m.cls := hown
  obtain ⟨⟨hP, hK⟩, hex, hnc⟩ := hB
  have hD := k_A_D hDt
  have hS : va_S (k_A ((wx cI q sh sp ld nm tx ds ct co kg ks) ++ [wo o cJ f])) s.heap s.heap [] := va_S.rf
  have hP : va_P D vwCl ((wx cI q sh sp ld nm tx ds ct co kg ks) ++ [wo o cJ f]) s.heap := hP
  refine lv_aload hx hb dL_stroke_0 (lv_at hl 7 rfl) ?_
  refine lv_iconst (v := nI 0) hx hb dL_stroke_2 (by decide) ?_
  refine lv_aload_n hx hb dL_stroke_3 rfl (lv_at hl 0 rfl) ?_
  refine lv_iload_n hx hb dL_stroke_4 rfl (lv_at hl 1 rfl) ?_
  refine lv_iload_n hx hb dL_stroke_5 rfl (lv_at hl 2 rfl) ?_
  refine lv_iload_n hx hb dL_stroke_6 rfl (lv_at hl 3 rfl) ?_
  refine lv_iload hx hb dL_stroke_7 (lv_at hl 4 rfl) ?_
  refine lv_iload hx hb dL_stroke_9 (lv_at hl 5 rfl) ?_
  refine lv_iload hx hb dL_stroke_11 (lv_at hl 6 rfl) ?_
  refine k_callXW (wr := [wo o cJ f]) (As := [.int g, .int a, .int b, .int c0, .int d0, .int bk]) (rest := [.int (nI 0), .ref o]) ⟨hx, hb, hml, hown, hts⟩ (c_X0_stroke l hst D cI q sh sp ld nm tx ds ct co kg ks g a b c0 d0 bk hsh (hDt.sub [0, 1, 2, 3, 4, 5, 6, 7, 8] (by decide) rfl)) (cwV 6 hts gL_stroke_X0_stroke rfl rfl rfl (by decide +kernel) ⟨Nat.le_of_ble_eq_true rfl, Nat.le_of_ble_eq_true rfl⟩) (k_ex_and k_B_bl) (fun U hU hW => ⟨k_B_of (hP.sub [0, 1, 2, 3, 4, 5, 6, 7, 8] rfl) (hK.sub [0] rfl) U hU hW, k_ex_of hex U hU hW⟩) (va_recv hK hP (ci := 0) (q0 := 0) rfl rfl) rfl hl.1 rfl (Nat.le_of_ble_eq_true rfl) dL_stroke_13 ⟨Nat.le_of_ble_eq_true rfl, Nat.le_of_ble_eq_true rfl⟩ hP hD hS [9] [0, 1, 2, 3, 4, 5, 6, 7, 8] rfl rfl (fun _ => rfl) ?_ ?_
  · intro E ce q9 H locs hE hP hS hce hcv hcl
    rcases List.mem_cons.mp hE with hE | hE
    · obtain ⟨hE1, hcd⟩ := Prod.mk.inj hE
      subst hE1
      refine vx_catch (own := RL) (name := k_IO) (E := k_IO) hown [] ⟨0, 18, 21, 13⟩ [⟨0, 18, 25, 15⟩] htab (fun z hz => absurd hz List.not_mem_nil) (by decide) (by decide) (hts (.classLink RL 13 k_IO) (by decide +kernel)) (va_Nw.use (k_nw_ot _ (List.mem_of_getElem? (i := 3) rfl)) (hex.2.2.1 _ (List.mem_of_getElem? (i := 3) rfl))) hce hcv hcl ?_
      refine lv_astore (lv' := [(8, .ref q9), (0, .ref (q 0)), (1, .int g), (2, .int a), (3, .int b), (4, .int c0), (5, .int d0), (6, .int bk), (7, .ref o)]) hx hb dL_stroke_21 hl (by decide) rfl (fun ls hl => ?_)
      refine lv_iconst (v := nI 1) hx hb dL_stroke_23 (by decide) ?_
      exact k_wiret none hx hb hr hlocks dL_stroke_24 (show cd2 (inB g 8) (lnB a b c0 d0) ≠ 0 by rw [hcd]; decide) (congrArg (fun n => some (Value.int (nI n))) hcd) hP hS (Nat.le_of_ble_eq_true rfl) (Nat.le_of_ble_eq_true rfl)
    have hE := List.mem_singleton.mp hE
    obtain ⟨hE1, hcd⟩ := Prod.mk.inj hE
    subst hE1
    refine vx_catch (own := RL) (name := k_IA) (E := k_IA) hown [⟨0, 18, 21, 13⟩] ⟨0, 18, 25, 15⟩ [] htab (List.forall_mem_cons.mpr ⟨Or.inr ⟨by decide, k_IO, hts (.classLink RL 13 k_IO) (by decide +kernel), hnc (k_IA, k_IO) (by decide)⟩, (fun z hz => absurd hz List.not_mem_nil)⟩) (by decide) (by decide) (hts (.classLink RL 15 k_IA) (by decide +kernel)) (va_Nw.use (k_nw_ot _ (List.mem_of_getElem? (i := 4) rfl)) (hex.2.2.1 _ (List.mem_of_getElem? (i := 4) rfl))) hce hcv hcl ?_
    refine lv_astore (lv' := [(8, .ref q9), (0, .ref (q 0)), (1, .int g), (2, .int a), (3, .int b), (4, .int c0), (5, .int d0), (6, .int bk), (7, .ref o)]) hx hb dL_stroke_25 hl (by decide) rfl (fun ls hl => ?_)
    refine lv_iconst (v := nI 2) hx hb dL_stroke_27 (by decide) ?_
    exact k_wiret none hx hb hr hlocks dL_stroke_28 (show cd2 (inB g 8) (lnB a b c0 d0) ≠ 0 by rw [hcd]; decide) (congrArg (fun n => some (Value.int (nI n))) hcd) hP hS (Nat.le_of_ble_eq_true rfl) (Nat.le_of_ble_eq_true rfl)
  · intro u H locs hu hP hD hS
    have hP : va_P D vwCl ((wx cI q (upd sh u.1 (stk bk (sh u.1) (lcN u.2.1 u.2.2.1 u.2.2.2.1 u.2.2.2.2))) sp ld nm tx ds ct co (nI 0) ks) ++ [wo o cJ f]) H := hP.sub [1, 2, 3, 4, 5, 6, 7, 8, 9, 0] rfl
    have hD : va_D _ ((wx cI q (upd sh u.1 (stk bk (sh u.1) (lcN u.2.1 u.2.2.1 u.2.2.2.1 u.2.2.2.2))) sp ld nm tx ds ct co (nI 0) ks) ++ [wo o cJ f]) := hD.sub [1, 2, 3, 4, 5, 6, 7, 8, 9, 0] (by decide) rfl
    refine lv_i2l (v := (df (sh u.1) (stk bk (sh u.1) (lcN u.2.1 u.2.2.1 u.2.2.2.1 u.2.2.2.2))).toInt64) hx hb dL_stroke_16 rfl ?_
    refine va_last hx hb hK hP hD hS 9 1 rfl rfl (vp_in_nI (by decide) (by decide)) dL_stroke_17 (fun H locs hP hD hS => ?_)
    have hP : va_P D vwCl ((wx cI q (upd sh u.1 (stk bk (sh u.1) (lcN u.2.1 u.2.2.1 u.2.2.2.1 u.2.2.2.2))) sp ld nm tx ds ct co (nI 0) ks) ++ [wo o cJ (vp_updL f 0 ((df (sh u.1) (stk bk (sh u.1) (lcN u.2.1 u.2.2.1 u.2.2.2.1 u.2.2.2.2))).toInt64))]) H := hP
    refine lv_goto (tgt := 29) hx hb dL_stroke_18 (by decide) ?_
    refine lv_iconst (v := nI 0) hx hb dL_stroke_29 (by decide) ?_
    exact k_wiret (some u) hx hb hr hlocks dL_stroke_30 hu rfl hP hS (Nat.le_of_ble_eq_true rfl) (Nat.le_of_ble_eq_true rfl)
set_option maxHeartbeats 4000000 in
set_option maxRecDepth 100000 in
theorem c_L_difference (l : Launch) (hst : l.stackTraces = false) (D : va_G) (cI : ClassId) (q : Nat → Nat) (sh sp ld nm tx ds ct : Nat → Int32) (co : Int64) (kg : Int32) (ks : Nat → Int32) (i j : Int32) (hsh : ∀ g, g < 8 → S25 (sh g)) (o : Nat) (cJ : ClassId) (f : Nat → Int64) (hDt : va_D (fun _ => True) ((wx cI q sh sp ld nm tx ds ct co kg ks) ++ [wo o cJ f])) : Met l yL_difference wsL_difference ({ frames := 8, cells := 8, slots := 48, locals := 132 } : Room) (k_P [.ref (q 0), .int i, .int j, .ref o] (fun U => k_B D ((wx cI q sh sp ld nm tx ds ct co kg ks) ++ [wo o cJ f]) [(cI, .int), (cJ, .long)] U ∧ k_ex U ∧ k_nc U)) (k_WQ D ((wx cI q sh sp ld nm tx ds ct co kg ks) ++ [wo o cJ f]) (fun u : Option (Nat × Nat) => u.elim (cd1 (inB i 8 && inB j 8) ≠ 0) (fun u => cd1 (inB i 8 && inB j 8) = 0 ∧ u.1 < 8 ∧ i = nI u.1 ∧ u.2 < 8 ∧ j = nI u.2)) (fun u => u.elim (wx cI q sh sp ld nm tx ds ct co kg ks) (fun u => wx cI q sh sp ld nm tx ds ct co kg ks) ++ [wo o cJ (u.elim f (fun u => vp_updL f 0 ((df (sh u.1) (sh u.2)).toInt64)))]) (fun u => some (.int (nI (u.elim (cd1 (inB i 8 && inB j 8)) (fun _ => 0)))))) 8 48 (k_A ((wx cI q sh sp ld nm tx ds ct co kg ks) ++ [wo o cJ f])) := by
  refine k_headT (cc := cL_difference) (maxL := 5) (ret := some .int) (hh := [(0, 10, 13, 13)]) [(0, .ref (q 0)), (1, .int i), (2, .int j), (3, .ref o)] (by decide) rfl (Nat.le_of_ble_eq_true rfl) rfl ?_
  intro p e s m below meth c ls hx hb hr hml hown hts hlocks htab hB hl
  have hown : s.vm.findClass RL = some m.cls := hown
  obtain ⟨⟨hP, hK⟩, hex, hnc⟩ := hB
  have hD := k_A_D hDt
  have hS : va_S (k_A ((wx cI q sh sp ld nm tx ds ct co kg ks) ++ [wo o cJ f])) s.heap s.heap [] := va_S.rf
  have hP : va_P D vwCl ((wx cI q sh sp ld nm tx ds ct co kg ks) ++ [wo o cJ f]) s.heap := hP
  refine lv_aload_n hx hb dL_difference_0 rfl (lv_at hl 3 rfl) ?_
  refine lv_iconst (v := nI 0) hx hb dL_difference_1 (by decide) ?_
  refine lv_aload_n hx hb dL_difference_2 rfl (lv_at hl 0 rfl) ?_
  refine lv_iload_n hx hb dL_difference_3 rfl (lv_at hl 1 rfl) ?_
  refine lv_iload_n hx hb dL_difference_4 rfl (lv_at hl 2 rfl) ?_
  refine k_callXW (wr := [wo o cJ f]) (As := [.int i, .int j]) (rest := [.int (nI 0), .ref o]) ⟨hx, hb, hml, hown, hts⟩ (c_X0_difference l hst D cI q sh sp ld nm tx ds ct co kg ks i j hsh (hDt.sub [0, 1, 2, 3, 4, 5, 6, 7, 8] (by decide) rfl)) (cwV 2 hts gL_difference_X0_difference rfl rfl rfl (by decide +kernel) ⟨Nat.le_of_ble_eq_true rfl, Nat.le_of_ble_eq_true rfl⟩) (k_ex_and k_B_bl) (fun U hU hW => ⟨k_B_of (hP.sub [0, 1, 2, 3, 4, 5, 6, 7, 8] rfl) (hK.sub [0] rfl) U hU hW, k_ex_of hex U hU hW⟩) (va_recv hK hP (ci := 0) (q0 := 0) rfl rfl) rfl hl.1 rfl (Nat.le_of_ble_eq_true rfl) dL_difference_5 ⟨Nat.le_of_ble_eq_true rfl, Nat.le_of_ble_eq_true rfl⟩ hP hD hS [9] [0, 1, 2, 3, 4, 5, 6, 7, 8] rfl rfl (fun _ => rfl) ?_ ?_
  · intro E ce q9 H locs hE hP hS hce hcv hcl
    have hE := List.mem_singleton.mp hE
    obtain ⟨hE1, hcd⟩ := Prod.mk.inj hE
    subst hE1
    refine vx_catch (own := RL) (name := k_IO) (E := k_IO) hown [] ⟨0, 10, 13, 13⟩ [] htab (fun z hz => absurd hz List.not_mem_nil) (by decide) (by decide) (hts (.classLink RL 13 k_IO) (by decide +kernel)) (va_Nw.use (k_nw_ot _ (List.mem_of_getElem? (i := 3) rfl)) (hex.2.2.1 _ (List.mem_of_getElem? (i := 3) rfl))) hce hcv hcl ?_
    refine lv_astore (lv' := [(4, .ref q9), (0, .ref (q 0)), (1, .int i), (2, .int j), (3, .ref o)]) hx hb dL_difference_13 hl (by decide) rfl (fun ls hl => ?_)
    refine lv_iconst (v := nI 1) hx hb dL_difference_15 (by decide) ?_
    exact k_wiret none hx hb hr hlocks dL_difference_16 (show cd1 (inB i 8 && inB j 8) ≠ 0 by rw [hcd]; decide) (congrArg (fun n => some (Value.int (nI n))) hcd) hP hS (Nat.le_of_ble_eq_true rfl) (Nat.le_of_ble_eq_true rfl)
  · intro u H locs hu hP hD hS
    have hP : va_P D vwCl ((wx cI q sh sp ld nm tx ds ct co kg ks) ++ [wo o cJ f]) H := hP.sub [1, 2, 3, 4, 5, 6, 7, 8, 9, 0] rfl
    have hD : va_D _ ((wx cI q sh sp ld nm tx ds ct co kg ks) ++ [wo o cJ f]) := hD.sub [1, 2, 3, 4, 5, 6, 7, 8, 9, 0] (by decide) rfl
    refine lv_i2l (v := (df (sh u.1) (sh u.2)).toInt64) hx hb dL_difference_8 rfl ?_
    refine va_last hx hb hK hP hD hS 9 1 rfl rfl (vp_in_nI (by decide) (by decide)) dL_difference_9 (fun H locs hP hD hS => ?_)
    have hP : va_P D vwCl ((wx cI q sh sp ld nm tx ds ct co kg ks) ++ [wo o cJ (vp_updL f 0 ((df (sh u.1) (sh u.2)).toInt64))]) H := hP
    refine lv_goto (tgt := 17) hx hb dL_difference_10 (by decide) ?_
    refine lv_iconst (v := nI 0) hx hb dL_difference_17 (by decide) ?_
    exact k_wiret (some u) hx hb hr hlocks dL_difference_18 hu rfl hP hS (Nat.le_of_ble_eq_true rfl) (Nat.le_of_ble_eq_true rfl)
set_option maxHeartbeats 4000000 in
set_option maxRecDepth 100000 in
theorem c_L_width (l : Launch) (hst : l.stackTraces = false) (D : va_G) (cI : ClassId) (q : Nat → Nat) (sh sp ld nm tx ds ct : Nat → Int32) (co : Int64) (kg : Int32) (ks : Nat → Int32) (g : Int32) (o : Nat) (cJ : ClassId) (f : Nat → Int64) (hDt : va_D (fun _ => True) ((wx cI q sh sp ld nm tx ds ct co kg ks) ++ [wo o cJ f])) : Met l yL_width wsL_width ({ frames := 8, cells := 8, slots := 48, locals := 131 } : Room) (k_P [.ref (q 0), .int g, .ref o] (fun U => k_B D ((wx cI q sh sp ld nm tx ds ct co kg ks) ++ [wo o cJ f]) [(cI, .int), (cJ, .long)] U ∧ k_ex U ∧ k_nc U)) (k_WQ D ((wx cI q sh sp ld nm tx ds ct co kg ks) ++ [wo o cJ f]) (fun u : Option (Nat) => u.elim (cd1 (inB g 8) ≠ 0) (fun u => cd1 (inB g 8) = 0 ∧ u < 8 ∧ g = nI u)) (fun u => u.elim (wx cI q sh sp ld nm tx ds ct co kg ks) (fun u => wx cI q sh sp ld nm tx ds ct co kg ks) ++ [wo o cJ (u.elim f (fun u => vp_updL f 0 ((wdF (hcC (sh u))).toInt64)))]) (fun u => some (.int (nI (u.elim (cd1 (inB g 8)) (fun _ => 0)))))) 8 48 (k_A ((wx cI q sh sp ld nm tx ds ct co kg ks) ++ [wo o cJ f])) := by
  refine k_headT (cc := cL_width) (maxL := 4) (ret := some .int) (hh := [(0, 9, 12, 13)]) [(0, .ref (q 0)), (1, .int g), (2, .ref o)] (by decide) rfl (Nat.le_of_ble_eq_true rfl) rfl ?_
  intro p e s m below meth c ls hx hb hr hml hown hts hlocks htab hB hl
  have hown : s.vm.findClass RL = some m.cls := hown
  obtain ⟨⟨hP, hK⟩, hex, hnc⟩ := hB
  have hD := k_A_D hDt
  have hS : va_S (k_A ((wx cI q sh sp ld nm tx ds ct co kg ks) ++ [wo o cJ f])) s.heap s.heap [] := va_S.rf
  have hP : va_P D vwCl ((wx cI q sh sp ld nm tx ds ct co kg ks) ++ [wo o cJ f]) s.heap := hP
  refine lv_aload_n hx hb dL_width_0 rfl (lv_at hl 2 rfl) ?_
  refine lv_iconst (v := nI 0) hx hb dL_width_1 (by decide) ?_
  refine lv_aload_n hx hb dL_width_2 rfl (lv_at hl 0 rfl) ?_
  refine lv_iload_n hx hb dL_width_3 rfl (lv_at hl 1 rfl) ?_
  refine k_callXW (wr := [wo o cJ f]) (As := [.int g]) (rest := [.int (nI 0), .ref o]) ⟨hx, hb, hml, hown, hts⟩ (c_X0_width l hst D cI q sh sp ld nm tx ds ct co kg ks g (hDt.sub [0, 1, 2, 3, 4, 5, 6, 7, 8] (by decide) rfl)) (cwV 1 hts gL_width_X0_width rfl rfl rfl (by decide +kernel) ⟨Nat.le_of_ble_eq_true rfl, Nat.le_of_ble_eq_true rfl⟩) (k_ex_and k_B_bl) (fun U hU hW => ⟨k_B_of (hP.sub [0, 1, 2, 3, 4, 5, 6, 7, 8] rfl) (hK.sub [0] rfl) U hU hW, k_ex_of hex U hU hW⟩) (va_recv hK hP (ci := 0) (q0 := 0) rfl rfl) rfl hl.1 rfl (Nat.le_of_ble_eq_true rfl) dL_width_4 ⟨Nat.le_of_ble_eq_true rfl, Nat.le_of_ble_eq_true rfl⟩ hP hD hS [9] [0, 1, 2, 3, 4, 5, 6, 7, 8] rfl rfl (fun _ => rfl) ?_ ?_
  · intro E ce q9 H locs hE hP hS hce hcv hcl
    have hE := List.mem_singleton.mp hE
    obtain ⟨hE1, hcd⟩ := Prod.mk.inj hE
    subst hE1
    refine vx_catch (own := RL) (name := k_IO) (E := k_IO) hown [] ⟨0, 9, 12, 13⟩ [] htab (fun z hz => absurd hz List.not_mem_nil) (by decide) (by decide) (hts (.classLink RL 13 k_IO) (by decide +kernel)) (va_Nw.use (k_nw_ot _ (List.mem_of_getElem? (i := 3) rfl)) (hex.2.2.1 _ (List.mem_of_getElem? (i := 3) rfl))) hce hcv hcl ?_
    refine lv_astore_n (lv' := [(3, .ref q9), (0, .ref (q 0)), (1, .int g), (2, .ref o)]) hx hb dL_width_12 rfl hl (by decide) rfl (fun ls hl => ?_)
    refine lv_iconst (v := nI 1) hx hb dL_width_13 (by decide) ?_
    exact k_wiret none hx hb hr hlocks dL_width_14 (show cd1 (inB g 8) ≠ 0 by rw [hcd]; decide) (congrArg (fun n => some (Value.int (nI n))) hcd) hP hS (Nat.le_of_ble_eq_true rfl) (Nat.le_of_ble_eq_true rfl)
  · intro u H locs hu hP hD hS
    have hP : va_P D vwCl ((wx cI q sh sp ld nm tx ds ct co kg ks) ++ [wo o cJ f]) H := hP.sub [1, 2, 3, 4, 5, 6, 7, 8, 9, 0] rfl
    have hD : va_D _ ((wx cI q sh sp ld nm tx ds ct co kg ks) ++ [wo o cJ f]) := hD.sub [1, 2, 3, 4, 5, 6, 7, 8, 9, 0] (by decide) rfl
    refine lv_i2l (v := (wdF (hcC (sh u))).toInt64) hx hb dL_width_7 rfl ?_
    refine va_last hx hb hK hP hD hS 9 1 rfl rfl (vp_in_nI (by decide) (by decide)) dL_width_8 (fun H locs hP hD hS => ?_)
    have hP : va_P D vwCl ((wx cI q sh sp ld nm tx ds ct co kg ks) ++ [wo o cJ (vp_updL f 0 ((wdF (hcC (sh u))).toInt64))]) H := hP
    refine lv_goto (tgt := 15) hx hb dL_width_9 (by decide) ?_
    refine lv_iconst (v := nI 0) hx hb dL_width_15 (by decide) ?_
    exact k_wiret (some u) hx hb hr hlocks dL_width_16 hu rfl hP hS (Nat.le_of_ble_eq_true rfl) (Nat.le_of_ble_eq_true rfl)
set_option maxHeartbeats 4000000 in
set_option maxRecDepth 100000 in
theorem c_L_space (l : Launch) (hst : l.stackTraces = false) (D : va_G) (cI : ClassId) (q : Nat → Nat) (sh sp ld nm tx ds ct : Nat → Int32) (co : Int64) (kg : Int32) (ks : Nat → Int32) (i j v : Int32) (o : Nat) (cJ : ClassId) (f : Nat → Int64) (hDt : va_D (fun _ => True) ((wx cI q sh sp ld nm tx ds ct co kg ks) ++ [wo o cJ f])) : Met l yL_space wsL_space ({ frames := 8, cells := 8, slots := 48, locals := 135 } : Room) (k_P [.ref (q 0), .int i, .int j, .int v, .ref o] (fun U => k_B D ((wx cI q sh sp ld nm tx ds ct co kg ks) ++ [wo o cJ f]) [(cI, .int), (cJ, .long)] U ∧ k_ex U ∧ k_nc U)) (k_WQ D ((wx cI q sh sp ld nm tx ds ct co kg ks) ++ [wo o cJ f]) (fun u : Option (Nat × Nat) => u.elim (cd2 (inB i 8 && inB j 8) (rgB v (-1) (nI 3)) ≠ 0) (fun u => cd2 (inB i 8 && inB j 8) (rgB v (-1) (nI 3)) = 0 ∧ u.1 < 8 ∧ i = nI u.1 ∧ u.2 < 8 ∧ j = nI u.2)) (fun u => u.elim (wx cI q sh sp ld nm tx ds ct co kg ks) (fun u => wx cI q sh (upd sp (u.1 * 8 + u.2) v) ld nm tx ds ct co kg ks) ++ [wo o cJ (u.elim f (fun u => vp_updL f 0 ((sp (u.1 * 8 + u.2)).toInt64)))]) (fun u => some (.int (nI (u.elim (cd2 (inB i 8 && inB j 8) (rgB v (-1) (nI 3))) (fun _ => 0)))))) 8 48 (k_A ((wx cI q sh sp ld nm tx ds ct co kg ks) ++ [wo o cJ f])) := by
  refine k_headT (cc := cL_space) (maxL := 6) (ret := some .int) (hh := [(0, 12, 15, 13), (0, 12, 19, 15)]) [(0, .ref (q 0)), (1, .int i), (2, .int j), (3, .int v), (4, .ref o)] (by decide) rfl (Nat.le_of_ble_eq_true rfl) rfl ?_
  intro p e s m below meth c ls hx hb hr hml hown hts hlocks htab hB hl
  have hown : s.vm.findClass RL = some m.cls := hown
  obtain ⟨⟨hP, hK⟩, hex, hnc⟩ := hB
  have hD := k_A_D hDt
  have hS : va_S (k_A ((wx cI q sh sp ld nm tx ds ct co kg ks) ++ [wo o cJ f])) s.heap s.heap [] := va_S.rf
  have hP : va_P D vwCl ((wx cI q sh sp ld nm tx ds ct co kg ks) ++ [wo o cJ f]) s.heap := hP
  refine lv_aload hx hb dL_space_0 (lv_at hl 4 rfl) ?_
  refine lv_iconst (v := nI 0) hx hb dL_space_2 (by decide) ?_
  refine lv_aload_n hx hb dL_space_3 rfl (lv_at hl 0 rfl) ?_
  refine lv_iload_n hx hb dL_space_4 rfl (lv_at hl 1 rfl) ?_
  refine lv_iload_n hx hb dL_space_5 rfl (lv_at hl 2 rfl) ?_
  refine lv_iload_n hx hb dL_space_6 rfl (lv_at hl 3 rfl) ?_
  refine k_callXW (wr := [wo o cJ f]) (As := [.int i, .int j, .int v]) (rest := [.int (nI 0), .ref o]) ⟨hx, hb, hml, hown, hts⟩ (c_X0_space l hst D cI q sh sp ld nm tx ds ct co kg ks i j v (hDt.sub [0, 1, 2, 3, 4, 5, 6, 7, 8] (by decide) rfl)) (cwV 3 hts gL_space_X0_space rfl rfl rfl (by decide +kernel) ⟨Nat.le_of_ble_eq_true rfl, Nat.le_of_ble_eq_true rfl⟩) (k_ex_and k_B_bl) (fun U hU hW => ⟨k_B_of (hP.sub [0, 1, 2, 3, 4, 5, 6, 7, 8] rfl) (hK.sub [0] rfl) U hU hW, k_ex_of hex U hU hW⟩) (va_recv hK hP (ci := 0) (q0 := 0) rfl rfl) rfl hl.1 rfl (Nat.le_of_ble_eq_true rfl) dL_space_7 ⟨Nat.le_of_ble_eq_true rfl, Nat.le_of_ble_eq_true rfl⟩ hP hD hS [9] [0, 1, 2, 3, 4, 5, 6, 7, 8] rfl rfl (fun _ => rfl) ?_ ?_
  · intro E ce q9 H locs hE hP hS hce hcv hcl
    rcases List.mem_cons.mp hE with hE | hE
    · obtain ⟨hE1, hcd⟩ := Prod.mk.inj hE
      subst hE1
      refine vx_catch (own := RL) (name := k_IO) (E := k_IO) hown [] ⟨0, 12, 15, 13⟩ [⟨0, 12, 19, 15⟩] htab (fun z hz => absurd hz List.not_mem_nil) (by decide) (by decide) (hts (.classLink RL 13 k_IO) (by decide +kernel)) (va_Nw.use (k_nw_ot _ (List.mem_of_getElem? (i := 3) rfl)) (hex.2.2.1 _ (List.mem_of_getElem? (i := 3) rfl))) hce hcv hcl ?_
      refine lv_astore (lv' := [(5, .ref q9), (0, .ref (q 0)), (1, .int i), (2, .int j), (3, .int v), (4, .ref o)]) hx hb dL_space_15 hl (by decide) rfl (fun ls hl => ?_)
      refine lv_iconst (v := nI 1) hx hb dL_space_17 (by decide) ?_
      exact k_wiret none hx hb hr hlocks dL_space_18 (show cd2 (inB i 8 && inB j 8) (rgB v (-1) (nI 3)) ≠ 0 by rw [hcd]; decide) (congrArg (fun n => some (Value.int (nI n))) hcd) hP hS (Nat.le_of_ble_eq_true rfl) (Nat.le_of_ble_eq_true rfl)
    have hE := List.mem_singleton.mp hE
    obtain ⟨hE1, hcd⟩ := Prod.mk.inj hE
    subst hE1
    refine vx_catch (own := RL) (name := k_IA) (E := k_IA) hown [⟨0, 12, 15, 13⟩] ⟨0, 12, 19, 15⟩ [] htab (List.forall_mem_cons.mpr ⟨Or.inr ⟨by decide, k_IO, hts (.classLink RL 13 k_IO) (by decide +kernel), hnc (k_IA, k_IO) (by decide)⟩, (fun z hz => absurd hz List.not_mem_nil)⟩) (by decide) (by decide) (hts (.classLink RL 15 k_IA) (by decide +kernel)) (va_Nw.use (k_nw_ot _ (List.mem_of_getElem? (i := 4) rfl)) (hex.2.2.1 _ (List.mem_of_getElem? (i := 4) rfl))) hce hcv hcl ?_
    refine lv_astore (lv' := [(5, .ref q9), (0, .ref (q 0)), (1, .int i), (2, .int j), (3, .int v), (4, .ref o)]) hx hb dL_space_19 hl (by decide) rfl (fun ls hl => ?_)
    refine lv_iconst (v := nI 2) hx hb dL_space_21 (by decide) ?_
    exact k_wiret none hx hb hr hlocks dL_space_22 (show cd2 (inB i 8 && inB j 8) (rgB v (-1) (nI 3)) ≠ 0 by rw [hcd]; decide) (congrArg (fun n => some (Value.int (nI n))) hcd) hP hS (Nat.le_of_ble_eq_true rfl) (Nat.le_of_ble_eq_true rfl)
  · intro u H locs hu hP hD hS
    have hP : va_P D vwCl ((wx cI q sh (upd sp (u.1 * 8 + u.2) v) ld nm tx ds ct co kg ks) ++ [wo o cJ f]) H := hP.sub [1, 2, 3, 4, 5, 6, 7, 8, 9, 0] rfl
    have hD : va_D _ ((wx cI q sh (upd sp (u.1 * 8 + u.2) v) ld nm tx ds ct co kg ks) ++ [wo o cJ f]) := hD.sub [1, 2, 3, 4, 5, 6, 7, 8, 9, 0] (by decide) rfl
    refine lv_i2l (v := (sp (u.1 * 8 + u.2)).toInt64) hx hb dL_space_10 rfl ?_
    refine va_last hx hb hK hP hD hS 9 1 rfl rfl (vp_in_nI (by decide) (by decide)) dL_space_11 (fun H locs hP hD hS => ?_)
    have hP : va_P D vwCl ((wx cI q sh (upd sp (u.1 * 8 + u.2) v) ld nm tx ds ct co kg ks) ++ [wo o cJ (vp_updL f 0 ((sp (u.1 * 8 + u.2)).toInt64))]) H := hP
    refine lv_goto (tgt := 23) hx hb dL_space_12 (by decide) ?_
    refine lv_iconst (v := nI 0) hx hb dL_space_23 (by decide) ?_
    exact k_wiret (some u) hx hb hr hlocks dL_space_24 hu rfl hP hS (Nat.le_of_ble_eq_true rfl) (Nat.le_of_ble_eq_true rfl)
set_option maxHeartbeats 4000000 in
set_option maxRecDepth 100000 in
theorem c_L_lead (l : Launch) (hst : l.stackTraces = false) (D : va_G) (cI : ClassId) (q : Nat → Nat) (sh sp ld nm tx ds ct : Nat → Int32) (co : Int64) (kg : Int32) (ks : Nat → Int32) (p0 x0 to : Int32) (o : Nat) (cJ : ClassId) (f : Nat → Int64) (hDt : va_D (fun _ => True) ((wx cI q sh sp ld nm tx ds ct co kg ks) ++ [wo o cJ f])) : Met l yL_lead wsL_lead ({ frames := 9, cells := 8, slots := 48, locals := 156 } : Room) (k_P [.ref (q 0), .int p0, .int x0, .int to, .ref o] (fun U => k_B D ((wx cI q sh sp ld nm tx ds ct co kg ks) ++ [wo o cJ f]) [(cI, .int), (cJ, .long)] U ∧ k_ex U ∧ k_nc U)) (k_WQ D ((wx cI q sh sp ld nm tx ds ct co kg ks) ++ [wo o cJ f]) (fun u : Option (Nat × Nat × Nat) => u.elim (cd1 ((inB p0 8 && inB x0 4) && (decide (to = -1) || inB to 8)) ≠ 0) (fun u => cd1 ((inB p0 8 && inB x0 4) && (decide (to = -1) || inB to 8)) = 0 ∧ u.1 < 8 ∧ p0 = nI u.1 ∧ u.2.1 < 4 ∧ x0 = nI u.2.1 ∧ u.2.2 ≤ 8 ∧ to = ix u.2.2)) (fun u => u.elim (wx cI q sh sp ld nm tx ds ct co kg ks) (fun u => wx cI q sh sp (upd ld (u.1 * 4 + u.2.1) to) nm tx ds ct co (nI 0) ks) ++ [wo o cJ (u.elim f (fun u => vp_updL f 0 ((ld (u.1 * 4 + u.2.1)).toInt64)))]) (fun u => some (.int (nI (u.elim (cd1 ((inB p0 8 && inB x0 4) && (decide (to = -1) || inB to 8))) (fun _ => 0)))))) 8 48 (k_A ((wx cI q sh sp ld nm tx ds ct co kg ks) ++ [wo o cJ f])) := by
  refine k_headT (cc := cL_lead) (maxL := 6) (ret := some .int) (hh := [(0, 12, 15, 13)]) [(0, .ref (q 0)), (1, .int p0), (2, .int x0), (3, .int to), (4, .ref o)] (by decide) rfl (Nat.le_of_ble_eq_true rfl) rfl ?_
  intro p e s m below meth c ls hx hb hr hml hown hts hlocks htab hB hl
  have hown : s.vm.findClass RL = some m.cls := hown
  obtain ⟨⟨hP, hK⟩, hex, hnc⟩ := hB
  have hD := k_A_D hDt
  have hS : va_S (k_A ((wx cI q sh sp ld nm tx ds ct co kg ks) ++ [wo o cJ f])) s.heap s.heap [] := va_S.rf
  have hP : va_P D vwCl ((wx cI q sh sp ld nm tx ds ct co kg ks) ++ [wo o cJ f]) s.heap := hP
  refine lv_aload hx hb dL_lead_0 (lv_at hl 4 rfl) ?_
  refine lv_iconst (v := nI 0) hx hb dL_lead_2 (by decide) ?_
  refine lv_aload_n hx hb dL_lead_3 rfl (lv_at hl 0 rfl) ?_
  refine lv_iload_n hx hb dL_lead_4 rfl (lv_at hl 1 rfl) ?_
  refine lv_iload_n hx hb dL_lead_5 rfl (lv_at hl 2 rfl) ?_
  refine lv_iload_n hx hb dL_lead_6 rfl (lv_at hl 3 rfl) ?_
  refine k_callXW (wr := [wo o cJ f]) (As := [.int p0, .int x0, .int to]) (rest := [.int (nI 0), .ref o]) ⟨hx, hb, hml, hown, hts⟩ (c_X0_lead l hst D cI q sh sp ld nm tx ds ct co kg ks p0 x0 to (hDt.sub [0, 1, 2, 3, 4, 5, 6, 7, 8] (by decide) rfl)) (cwV 3 hts gL_lead_X0_lead rfl rfl rfl (by decide +kernel) ⟨Nat.le_of_ble_eq_true rfl, Nat.le_of_ble_eq_true rfl⟩) (k_ex_and k_B_bl) (fun U hU hW => ⟨k_B_of (hP.sub [0, 1, 2, 3, 4, 5, 6, 7, 8] rfl) (hK.sub [0] rfl) U hU hW, k_ex_of hex U hU hW⟩) (va_recv hK hP (ci := 0) (q0 := 0) rfl rfl) rfl hl.1 rfl (Nat.le_of_ble_eq_true rfl) dL_lead_7 ⟨Nat.le_of_ble_eq_true rfl, Nat.le_of_ble_eq_true rfl⟩ hP hD hS [9] [0, 1, 2, 3, 4, 5, 6, 7, 8] rfl rfl (fun _ => rfl) ?_ ?_
  · intro E ce q9 H locs hE hP hS hce hcv hcl
    have hE := List.mem_singleton.mp hE
    obtain ⟨hE1, hcd⟩ := Prod.mk.inj hE
    subst hE1
    refine vx_catch (own := RL) (name := k_IO) (E := k_IO) hown [] ⟨0, 12, 15, 13⟩ [] htab (fun z hz => absurd hz List.not_mem_nil) (by decide) (by decide) (hts (.classLink RL 13 k_IO) (by decide +kernel)) (va_Nw.use (k_nw_ot _ (List.mem_of_getElem? (i := 3) rfl)) (hex.2.2.1 _ (List.mem_of_getElem? (i := 3) rfl))) hce hcv hcl ?_
    refine lv_astore (lv' := [(5, .ref q9), (0, .ref (q 0)), (1, .int p0), (2, .int x0), (3, .int to), (4, .ref o)]) hx hb dL_lead_15 hl (by decide) rfl (fun ls hl => ?_)
    refine lv_iconst (v := nI 1) hx hb dL_lead_17 (by decide) ?_
    exact k_wiret none hx hb hr hlocks dL_lead_18 (show cd1 ((inB p0 8 && inB x0 4) && (decide (to = -1) || inB to 8)) ≠ 0 by rw [hcd]; decide) (congrArg (fun n => some (Value.int (nI n))) hcd) hP hS (Nat.le_of_ble_eq_true rfl) (Nat.le_of_ble_eq_true rfl)
  · intro u H locs hu hP hD hS
    have hP : va_P D vwCl ((wx cI q sh sp (upd ld (u.1 * 4 + u.2.1) to) nm tx ds ct co (nI 0) ks) ++ [wo o cJ f]) H := hP.sub [1, 2, 3, 4, 5, 6, 7, 8, 9, 0] rfl
    have hD : va_D _ ((wx cI q sh sp (upd ld (u.1 * 4 + u.2.1) to) nm tx ds ct co (nI 0) ks) ++ [wo o cJ f]) := hD.sub [1, 2, 3, 4, 5, 6, 7, 8, 9, 0] (by decide) rfl
    refine lv_i2l (v := (ld (u.1 * 4 + u.2.1)).toInt64) hx hb dL_lead_10 rfl ?_
    refine va_last hx hb hK hP hD hS 9 1 rfl rfl (vp_in_nI (by decide) (by decide)) dL_lead_11 (fun H locs hP hD hS => ?_)
    have hP : va_P D vwCl ((wx cI q sh sp (upd ld (u.1 * 4 + u.2.1) to) nm tx ds ct co (nI 0) ks) ++ [wo o cJ (vp_updL f 0 ((ld (u.1 * 4 + u.2.1)).toInt64))]) H := hP
    refine lv_goto (tgt := 19) hx hb dL_lead_12 (by decide) ?_
    refine lv_iconst (v := nI 0) hx hb dL_lead_19 (by decide) ?_
    exact k_wiret (some u) hx hb hr hlocks dL_lead_20 hu rfl hP hS (Nat.le_of_ble_eq_true rfl) (Nat.le_of_ble_eq_true rfl)
set_option maxHeartbeats 4000000 in
set_option maxRecDepth 100000 in
theorem c_L_name (l : Launch) (hst : l.stackTraces = false) (D : va_G) (cI : ClassId) (q : Nat → Nat) (sh sp ld nm tx ds ct : Nat → Int32) (co : Int64) (kg : Int32) (ks : Nat → Int32) (p0 t m0 : Int32) (hDt : va_D (fun _ => True) (wx cI q sh sp ld nm tx ds ct co kg ks)) : Met l yL_name wsL_name ({ frames := 8, cells := 8, slots := 48, locals := 134 } : Room) (k_P [.ref (q 0), .int p0, .int t, .int m0] (fun U => k_B D (wx cI q sh sp ld nm tx ds ct co kg ks) [(cI, .int)] U ∧ k_ex U ∧ k_nc U)) (k_WQ D (wx cI q sh sp ld nm tx ds ct co kg ks) (fun u : Option (Nat × Nat × Nat) => u.elim (cd2 (inB p0 8) (txB t m0) ≠ 0) (fun u => cd2 (inB p0 8) (txB t m0) = 0 ∧ u.1 < 8 ∧ p0 = nI u.1 ∧ 1 ≤ u.2.2 ∧ u.2.2 ≤ 5 ∧ u.2.1 < 8 ^ u.2.2 ∧ t = nI u.2.1 ∧ m0 = nI u.2.2)) (fun u => u.elim (wx cI q sh sp ld nm tx ds ct co kg ks) (fun u => wx cI q sh sp ld (upd nm u.1 (nI (32768 * u.2.2 + u.2.1))) tx ds ct co (nI 0) ks)) (fun u => some (.int (nI (u.elim (cd2 (inB p0 8) (txB t m0)) (fun _ => 0)))))) 8 48 (k_A (wx cI q sh sp ld nm tx ds ct co kg ks)) := by
  refine k_headT (cc := cL_name) (maxL := 5) (ret := some .int) (hh := [(0, 7, 10, 13), (0, 7, 14, 15)]) [(0, .ref (q 0)), (1, .int p0), (2, .int t), (3, .int m0)] (by decide) rfl (Nat.le_of_ble_eq_true rfl) rfl ?_
  intro p e s m below meth c ls hx hb hr hml hown hts hlocks htab hB hl
  have hown : s.vm.findClass RL = some m.cls := hown
  obtain ⟨⟨hP, hK⟩, hex, hnc⟩ := hB
  have hD := k_A_D hDt
  have hS : va_S (k_A (wx cI q sh sp ld nm tx ds ct co kg ks)) s.heap s.heap [] := va_S.rf
  have hP : va_P D vwCl (wx cI q sh sp ld nm tx ds ct co kg ks) s.heap := hP
  refine lv_aload_n hx hb dL_name_0 rfl (lv_at hl 0 rfl) ?_
  refine lv_iload_n hx hb dL_name_1 rfl (lv_at hl 1 rfl) ?_
  refine lv_iload_n hx hb dL_name_2 rfl (lv_at hl 2 rfl) ?_
  refine lv_iload_n hx hb dL_name_3 rfl (lv_at hl 3 rfl) ?_
  refine k_callXW (wr := []) (As := [.int p0, .int t, .int m0]) (rest := []) ⟨hx, hb, hml, hown, hts⟩ (c_X0_name l hst D cI q sh sp ld nm tx ds ct co kg ks p0 t m0 (hDt.sub [0, 1, 2, 3, 4, 5, 6, 7, 8] (by decide) rfl)) (cwV 3 hts gL_name_X0_name rfl rfl rfl (by decide +kernel) ⟨Nat.le_of_ble_eq_true rfl, Nat.le_of_ble_eq_true rfl⟩) (k_ex_and k_B_bl) (fun U hU hW => ⟨k_B_of (hP.sub [0, 1, 2, 3, 4, 5, 6, 7, 8] rfl) (hK.sub [0] rfl) U hU hW, k_ex_of hex U hU hW⟩) (va_recv hK hP (ci := 0) (q0 := 0) rfl rfl) rfl hl.1 rfl (Nat.le_of_ble_eq_true rfl) dL_name_4 ⟨Nat.le_of_ble_eq_true rfl, Nat.le_of_ble_eq_true rfl⟩ hP hD hS [] [0, 1, 2, 3, 4, 5, 6, 7, 8] rfl rfl (fun _ => rfl) ?_ ?_
  · intro E ce q9 H locs hE hP hS hce hcv hcl
    rcases List.mem_cons.mp hE with hE | hE
    · obtain ⟨hE1, hcd⟩ := Prod.mk.inj hE
      subst hE1
      refine vx_catch (own := RL) (name := k_IO) (E := k_IO) hown [] ⟨0, 7, 10, 13⟩ [⟨0, 7, 14, 15⟩] htab (fun z hz => absurd hz List.not_mem_nil) (by decide) (by decide) (hts (.classLink RL 13 k_IO) (by decide +kernel)) (va_Nw.use (k_nw_ot _ (List.mem_of_getElem? (i := 3) rfl)) (hex.2.2.1 _ (List.mem_of_getElem? (i := 3) rfl))) hce hcv hcl ?_
      refine lv_astore (lv' := [(4, .ref q9), (0, .ref (q 0)), (1, .int p0), (2, .int t), (3, .int m0)]) hx hb dL_name_10 hl (by decide) rfl (fun ls hl => ?_)
      refine lv_iconst (v := nI 1) hx hb dL_name_12 (by decide) ?_
      exact k_wiret none hx hb hr hlocks dL_name_13 (show cd2 (inB p0 8) (txB t m0) ≠ 0 by rw [hcd]; decide) (congrArg (fun n => some (Value.int (nI n))) hcd) hP hS (Nat.le_of_ble_eq_true rfl) (Nat.le_of_ble_eq_true rfl)
    have hE := List.mem_singleton.mp hE
    obtain ⟨hE1, hcd⟩ := Prod.mk.inj hE
    subst hE1
    refine vx_catch (own := RL) (name := k_IA) (E := k_IA) hown [⟨0, 7, 10, 13⟩] ⟨0, 7, 14, 15⟩ [] htab (List.forall_mem_cons.mpr ⟨Or.inr ⟨by decide, k_IO, hts (.classLink RL 13 k_IO) (by decide +kernel), hnc (k_IA, k_IO) (by decide)⟩, (fun z hz => absurd hz List.not_mem_nil)⟩) (by decide) (by decide) (hts (.classLink RL 15 k_IA) (by decide +kernel)) (va_Nw.use (k_nw_ot _ (List.mem_of_getElem? (i := 4) rfl)) (hex.2.2.1 _ (List.mem_of_getElem? (i := 4) rfl))) hce hcv hcl ?_
    refine lv_astore (lv' := [(4, .ref q9), (0, .ref (q 0)), (1, .int p0), (2, .int t), (3, .int m0)]) hx hb dL_name_14 hl (by decide) rfl (fun ls hl => ?_)
    refine lv_iconst (v := nI 2) hx hb dL_name_16 (by decide) ?_
    exact k_wiret none hx hb hr hlocks dL_name_17 (show cd2 (inB p0 8) (txB t m0) ≠ 0 by rw [hcd]; decide) (congrArg (fun n => some (Value.int (nI n))) hcd) hP hS (Nat.le_of_ble_eq_true rfl) (Nat.le_of_ble_eq_true rfl)
  · intro u H locs hu hP hD hS
    refine lv_goto (tgt := 18) hx hb dL_name_7 (by decide) ?_
    refine lv_iconst (v := nI 0) hx hb dL_name_18 (by decide) ?_
    exact k_wiret (some u) hx hb hr hlocks dL_name_19 hu rfl hP hS (Nat.le_of_ble_eq_true rfl) (Nat.le_of_ble_eq_true rfl)
set_option maxHeartbeats 4000000 in
set_option maxRecDepth 100000 in
theorem c_L_textWidth (l : Launch) (hst : l.stackTraces = false) (D : va_G) (cI : ClassId) (q : Nat → Nat) (sh sp ld nm tx ds ct : Nat → Int32) (co : Int64) (kg : Int32) (ks : Nat → Int32) (t m0 : Int32) (o : Nat) (cJ : ClassId) (f : Nat → Int64) (hDt : va_D (fun _ => True) ((wx cI q sh sp ld nm tx ds ct co kg ks) ++ [wo o cJ f])) : Met l yL_textWidth wsL_textWidth ({ frames := 8, cells := 8, slots := 48, locals := 141 } : Room) (k_P [.ref (q 0), .int t, .int m0, .ref o] (fun U => k_B D ((wx cI q sh sp ld nm tx ds ct co kg ks) ++ [wo o cJ f]) [(cI, .int), (cJ, .long)] U ∧ k_ex U ∧ k_nc U)) (k_WQ D ((wx cI q sh sp ld nm tx ds ct co kg ks) ++ [wo o cJ f]) (fun u : Option (Nat × Nat) => u.elim (cd1 (txB t m0) ≠ 0) (fun u => cd1 (txB t m0) = 0 ∧ 1 ≤ u.2 ∧ u.2 ≤ 5 ∧ u.1 < 8 ^ u.2 ∧ t = nI u.1 ∧ m0 = nI u.2)) (fun u => u.elim (wx cI q sh sp ld nm tx ds ct co kg ks) (fun u => wx cI q sh sp ld nm tx ds ct co kg ks) ++ [wo o cJ (u.elim f (fun u => vp_updL f 0 ((pwC (wdS sh) sp u.1 u.2).toInt64)))]) (fun u => some (.int (nI (u.elim (cd1 (txB t m0)) (fun _ => 0)))))) 8 48 (k_A ((wx cI q sh sp ld nm tx ds ct co kg ks) ++ [wo o cJ f])) := by
  refine k_headT (cc := cL_textWidth) (maxL := 5) (ret := some .int) (hh := [(0, 10, 13, 15)]) [(0, .ref (q 0)), (1, .int t), (2, .int m0), (3, .ref o)] (by decide) rfl (Nat.le_of_ble_eq_true rfl) rfl ?_
  intro p e s m below meth c ls hx hb hr hml hown hts hlocks htab hB hl
  have hown : s.vm.findClass RL = some m.cls := hown
  obtain ⟨⟨hP, hK⟩, hex, hnc⟩ := hB
  have hD := k_A_D hDt
  have hS : va_S (k_A ((wx cI q sh sp ld nm tx ds ct co kg ks) ++ [wo o cJ f])) s.heap s.heap [] := va_S.rf
  have hP : va_P D vwCl ((wx cI q sh sp ld nm tx ds ct co kg ks) ++ [wo o cJ f]) s.heap := hP
  refine lv_aload_n hx hb dL_textWidth_0 rfl (lv_at hl 3 rfl) ?_
  refine lv_iconst (v := nI 0) hx hb dL_textWidth_1 (by decide) ?_
  refine lv_aload_n hx hb dL_textWidth_2 rfl (lv_at hl 0 rfl) ?_
  refine lv_iload_n hx hb dL_textWidth_3 rfl (lv_at hl 1 rfl) ?_
  refine lv_iload_n hx hb dL_textWidth_4 rfl (lv_at hl 2 rfl) ?_
  refine k_callXW (wr := [wo o cJ f]) (As := [.int t, .int m0]) (rest := [.int (nI 0), .ref o]) ⟨hx, hb, hml, hown, hts⟩ (c_X0_textWidth l hst D cI q sh sp ld nm tx ds ct co kg ks t m0 (hDt.sub [0, 1, 2, 3, 4, 5, 6, 7, 8] (by decide) rfl)) (cwV 2 hts gL_textWidth_X0_textWidth rfl rfl rfl (by decide +kernel) ⟨Nat.le_of_ble_eq_true rfl, Nat.le_of_ble_eq_true rfl⟩) (k_ex_and k_B_bl) (fun U hU hW => ⟨k_B_of (hP.sub [0, 1, 2, 3, 4, 5, 6, 7, 8] rfl) (hK.sub [0] rfl) U hU hW, k_ex_of hex U hU hW⟩) (va_recv hK hP (ci := 0) (q0 := 0) rfl rfl) rfl hl.1 rfl (Nat.le_of_ble_eq_true rfl) dL_textWidth_5 ⟨Nat.le_of_ble_eq_true rfl, Nat.le_of_ble_eq_true rfl⟩ hP hD hS [9] [0, 1, 2, 3, 4, 5, 6, 7, 8] rfl rfl (fun _ => rfl) ?_ ?_
  · intro E ce q9 H locs hE hP hS hce hcv hcl
    have hE := List.mem_singleton.mp hE
    obtain ⟨hE1, hcd⟩ := Prod.mk.inj hE
    subst hE1
    refine vx_catch (own := RL) (name := k_IA) (E := k_IA) hown [] ⟨0, 10, 13, 15⟩ [] htab (fun z hz => absurd hz List.not_mem_nil) (by decide) (by decide) (hts (.classLink RL 15 k_IA) (by decide +kernel)) (va_Nw.use (k_nw_ot _ (List.mem_of_getElem? (i := 4) rfl)) (hex.2.2.1 _ (List.mem_of_getElem? (i := 4) rfl))) hce hcv hcl ?_
    refine lv_astore (lv' := [(4, .ref q9), (0, .ref (q 0)), (1, .int t), (2, .int m0), (3, .ref o)]) hx hb dL_textWidth_13 hl (by decide) rfl (fun ls hl => ?_)
    refine lv_iconst (v := nI 1) hx hb dL_textWidth_15 (by decide) ?_
    exact k_wiret none hx hb hr hlocks dL_textWidth_16 (show cd1 (txB t m0) ≠ 0 by rw [hcd]; decide) (congrArg (fun n => some (Value.int (nI n))) hcd) hP hS (Nat.le_of_ble_eq_true rfl) (Nat.le_of_ble_eq_true rfl)
  · intro u H locs hu hP hD hS
    have hP : va_P D vwCl ((wx cI q sh sp ld nm tx ds ct co kg ks) ++ [wo o cJ f]) H := hP.sub [1, 2, 3, 4, 5, 6, 7, 8, 9, 0] rfl
    have hD : va_D _ ((wx cI q sh sp ld nm tx ds ct co kg ks) ++ [wo o cJ f]) := hD.sub [1, 2, 3, 4, 5, 6, 7, 8, 9, 0] (by decide) rfl
    refine lv_i2l (v := (pwC (wdS sh) sp u.1 u.2).toInt64) hx hb dL_textWidth_8 rfl ?_
    refine va_last hx hb hK hP hD hS 9 1 rfl rfl (vp_in_nI (by decide) (by decide)) dL_textWidth_9 (fun H locs hP hD hS => ?_)
    have hP : va_P D vwCl ((wx cI q sh sp ld nm tx ds ct co kg ks) ++ [wo o cJ (vp_updL f 0 ((pwC (wdS sh) sp u.1 u.2).toInt64))]) H := hP
    refine lv_goto (tgt := 17) hx hb dL_textWidth_10 (by decide) ?_
    refine lv_iconst (v := nI 0) hx hb dL_textWidth_17 (by decide) ?_
    exact k_wiret (some u) hx hb hr hlocks dL_textWidth_18 hu rfl hP hS (Nat.le_of_ble_eq_true rfl) (Nat.le_of_ble_eq_true rfl)
set_option maxHeartbeats 4000000 in
set_option maxRecDepth 100000 in
theorem c_L_cut (l : Launch) (hst : l.stackTraces = false) (D : va_G) (cI : ClassId) (q : Nat → Nat) (sh sp ld nm tx ds ct : Nat → Int32) (co : Int64) (kg : Int32) (ks : Nat → Int32) (p0 x0 t m0 d0 : Int32) (o : Nat) (cJ : ClassId) (f : Nat → Int64) (hDt : va_D (fun _ => True) ((wx cI q sh sp ld nm tx ds ct co kg ks) ++ [wo o cJ f])) : Met l yL_cut wsL_cut ({ frames := 9, cells := 8, slots := 48, locals := 169 } : Room) (k_P [.ref (q 0), .int p0, .int x0, .int t, .int m0, .int d0, .ref o] (fun U => k_B D ((wx cI q sh sp ld nm tx ds ct co kg ks) ++ [wo o cJ f]) [(cI, .int), (cJ, .long)] U ∧ k_ex U ∧ k_nc U)) (k_WQ D ((wx cI q sh sp ld nm tx ds ct co kg ks) ++ [wo o cJ f]) (fun u : Option (Nat × Nat × Nat × Nat) => u.elim (cd3 (inB p0 8 && inB x0 4) (txB t m0 && inB d0 10) (!decide (plF (pwC (wdS sh) sp t.toNatClampNeg m0.toNatClampNeg) = -1)) ≠ 0) (fun u => cd3 (inB p0 8 && inB x0 4) (txB t m0 && inB d0 10) (!decide (plF (pwC (wdS sh) sp t.toNatClampNeg m0.toNatClampNeg) = -1)) = 0 ∧ u.1 < 8 ∧ p0 = nI u.1 ∧ u.2.1 < 4 ∧ x0 = nI u.2.1 ∧ 1 ≤ u.2.2.2 ∧ u.2.2.2 ≤ 5 ∧ u.2.2.1 < 8 ^ u.2.2.2 ∧ t = nI u.2.2.1 ∧ m0 = nI u.2.2.2)) (fun u => u.elim (wx cI q sh sp ld nm tx ds ct co kg ks) (fun u => wx cI q sh sp ld nm (upd tx (u.1 * 4 + u.2.1) (nI (32768 * u.2.2.2 + u.2.2.1))) (upd ds (u.1 * 4 + u.2.1) d0) (engF sh ct (u.1 * 4 + u.2.1) u.2.2.1 u.2.2.2) (co + (plF (pwC (wdS sh) sp u.2.2.1 u.2.2.2)).toInt64) (nI 0) ks) ++ [wo o cJ (u.elim f (fun u => vp_updL f 0 ((plF (pwC (wdS sh) sp u.2.2.1 u.2.2.2)).toInt64)))]) (fun u => some (.int (nI (u.elim (cd3 (inB p0 8 && inB x0 4) (txB t m0 && inB d0 10) (!decide (plF (pwC (wdS sh) sp t.toNatClampNeg m0.toNatClampNeg) = -1))) (fun _ => 0)))))) 8 48 (k_A ((wx cI q sh sp ld nm tx ds ct co kg ks) ++ [wo o cJ f])) := by
  refine k_headT (cc := cL_cut) (maxL := 8) (ret := some .int) (hh := [(0, 16, 19, 13), (0, 16, 23, 15), (0, 16, 27, 43)]) [(0, .ref (q 0)), (1, .int p0), (2, .int x0), (3, .int t), (4, .int m0), (5, .int d0), (6, .ref o)] (by decide) rfl (Nat.le_of_ble_eq_true rfl) rfl ?_
  intro p e s m below meth c ls hx hb hr hml hown hts hlocks htab hB hl
  have hown : s.vm.findClass RL = some m.cls := hown
  obtain ⟨⟨hP, hK⟩, hex, hnc⟩ := hB
  have hD := k_A_D hDt
  have hS : va_S (k_A ((wx cI q sh sp ld nm tx ds ct co kg ks) ++ [wo o cJ f])) s.heap s.heap [] := va_S.rf
  have hP : va_P D vwCl ((wx cI q sh sp ld nm tx ds ct co kg ks) ++ [wo o cJ f]) s.heap := hP
  refine lv_aload hx hb dL_cut_0 (lv_at hl 6 rfl) ?_
  refine lv_iconst (v := nI 0) hx hb dL_cut_2 (by decide) ?_
  refine lv_aload_n hx hb dL_cut_3 rfl (lv_at hl 0 rfl) ?_
  refine lv_iload_n hx hb dL_cut_4 rfl (lv_at hl 1 rfl) ?_
  refine lv_iload_n hx hb dL_cut_5 rfl (lv_at hl 2 rfl) ?_
  refine lv_iload_n hx hb dL_cut_6 rfl (lv_at hl 3 rfl) ?_
  refine lv_iload hx hb dL_cut_7 (lv_at hl 4 rfl) ?_
  refine lv_iload hx hb dL_cut_9 (lv_at hl 5 rfl) ?_
  refine k_callXW (wr := [wo o cJ f]) (As := [.int p0, .int x0, .int t, .int m0, .int d0]) (rest := [.int (nI 0), .ref o]) ⟨hx, hb, hml, hown, hts⟩ (c_X0_cut l hst D cI q sh sp ld nm tx ds ct co kg ks p0 x0 t m0 d0 (hDt.sub [0, 1, 2, 3, 4, 5, 6, 7, 8] (by decide) rfl)) (cwV 5 hts gL_cut_X0_cut rfl rfl rfl (by decide +kernel) ⟨Nat.le_of_ble_eq_true rfl, Nat.le_of_ble_eq_true rfl⟩) (k_ex_and k_B_bl) (fun U hU hW => ⟨k_B_of (hP.sub [0, 1, 2, 3, 4, 5, 6, 7, 8] rfl) (hK.sub [0] rfl) U hU hW, k_ex_of hex U hU hW⟩) (va_recv hK hP (ci := 0) (q0 := 0) rfl rfl) rfl hl.1 rfl (Nat.le_of_ble_eq_true rfl) dL_cut_11 ⟨Nat.le_of_ble_eq_true rfl, Nat.le_of_ble_eq_true rfl⟩ hP hD hS [9] [0, 1, 2, 3, 4, 5, 6, 7, 8] rfl rfl (fun _ => rfl) ?_ ?_
  · intro E ce q9 H locs hE hP hS hce hcv hcl
    rcases List.mem_cons.mp hE with hE | hE
    · obtain ⟨hE1, hcd⟩ := Prod.mk.inj hE
      subst hE1
      refine vx_catch (own := RL) (name := k_IO) (E := k_IO) hown [] ⟨0, 16, 19, 13⟩ [⟨0, 16, 23, 15⟩, ⟨0, 16, 27, 43⟩] htab (fun z hz => absurd hz List.not_mem_nil) (by decide) (by decide) (hts (.classLink RL 13 k_IO) (by decide +kernel)) (va_Nw.use (k_nw_ot _ (List.mem_of_getElem? (i := 3) rfl)) (hex.2.2.1 _ (List.mem_of_getElem? (i := 3) rfl))) hce hcv hcl ?_
      refine lv_astore (lv' := [(7, .ref q9), (0, .ref (q 0)), (1, .int p0), (2, .int x0), (3, .int t), (4, .int m0), (5, .int d0), (6, .ref o)]) hx hb dL_cut_19 hl (by decide) rfl (fun ls hl => ?_)
      refine lv_iconst (v := nI 1) hx hb dL_cut_21 (by decide) ?_
      exact k_wiret none hx hb hr hlocks dL_cut_22 (show cd3 (inB p0 8 && inB x0 4) (txB t m0 && inB d0 10) (!decide (plF (pwC (wdS sh) sp t.toNatClampNeg m0.toNatClampNeg) = -1)) ≠ 0 by rw [hcd]; decide) (congrArg (fun n => some (Value.int (nI n))) hcd) hP hS (Nat.le_of_ble_eq_true rfl) (Nat.le_of_ble_eq_true rfl)
    rcases List.mem_cons.mp hE with hE | hE
    · obtain ⟨hE1, hcd⟩ := Prod.mk.inj hE
      subst hE1
      refine vx_catch (own := RL) (name := k_IA) (E := k_IA) hown [⟨0, 16, 19, 13⟩] ⟨0, 16, 23, 15⟩ [⟨0, 16, 27, 43⟩] htab (List.forall_mem_cons.mpr ⟨Or.inr ⟨by decide, k_IO, hts (.classLink RL 13 k_IO) (by decide +kernel), hnc (k_IA, k_IO) (by decide)⟩, (fun z hz => absurd hz List.not_mem_nil)⟩) (by decide) (by decide) (hts (.classLink RL 15 k_IA) (by decide +kernel)) (va_Nw.use (k_nw_ot _ (List.mem_of_getElem? (i := 4) rfl)) (hex.2.2.1 _ (List.mem_of_getElem? (i := 4) rfl))) hce hcv hcl ?_
      refine lv_astore (lv' := [(7, .ref q9), (0, .ref (q 0)), (1, .int p0), (2, .int x0), (3, .int t), (4, .int m0), (5, .int d0), (6, .ref o)]) hx hb dL_cut_23 hl (by decide) rfl (fun ls hl => ?_)
      refine lv_iconst (v := nI 2) hx hb dL_cut_25 (by decide) ?_
      exact k_wiret none hx hb hr hlocks dL_cut_26 (show cd3 (inB p0 8 && inB x0 4) (txB t m0 && inB d0 10) (!decide (plF (pwC (wdS sh) sp t.toNatClampNeg m0.toNatClampNeg) = -1)) ≠ 0 by rw [hcd]; decide) (congrArg (fun n => some (Value.int (nI n))) hcd) hP hS (Nat.le_of_ble_eq_true rfl) (Nat.le_of_ble_eq_true rfl)
    have hE := List.mem_singleton.mp hE
    obtain ⟨hE1, hcd⟩ := Prod.mk.inj hE
    subst hE1
    refine vx_catch (own := RL) (name := k_IS) (E := k_IS) hown [⟨0, 16, 19, 13⟩, ⟨0, 16, 23, 15⟩] ⟨0, 16, 27, 43⟩ [] htab (List.forall_mem_cons.mpr ⟨Or.inr ⟨by decide, k_IO, hts (.classLink RL 13 k_IO) (by decide +kernel), hnc (k_IS, k_IO) (by decide)⟩, (List.forall_mem_cons.mpr ⟨Or.inr ⟨by decide, k_IA, hts (.classLink RL 15 k_IA) (by decide +kernel), hnc (k_IS, k_IA) (by decide)⟩, (fun z hz => absurd hz List.not_mem_nil)⟩)⟩) (by decide) (by decide) (hts (.classLink RL 43 k_IS) (by decide +kernel)) (va_Nw.use (k_nw_ot _ (List.mem_of_getElem? (i := 5) rfl)) (hex.2.2.1 _ (List.mem_of_getElem? (i := 5) rfl))) hce hcv hcl ?_
    refine lv_astore (lv' := [(7, .ref q9), (0, .ref (q 0)), (1, .int p0), (2, .int x0), (3, .int t), (4, .int m0), (5, .int d0), (6, .ref o)]) hx hb dL_cut_27 hl (by decide) rfl (fun ls hl => ?_)
    refine lv_iconst (v := nI 3) hx hb dL_cut_29 (by decide) ?_
    exact k_wiret none hx hb hr hlocks dL_cut_30 (show cd3 (inB p0 8 && inB x0 4) (txB t m0 && inB d0 10) (!decide (plF (pwC (wdS sh) sp t.toNatClampNeg m0.toNatClampNeg) = -1)) ≠ 0 by rw [hcd]; decide) (congrArg (fun n => some (Value.int (nI n))) hcd) hP hS (Nat.le_of_ble_eq_true rfl) (Nat.le_of_ble_eq_true rfl)
  · intro u H locs hu hP hD hS
    have hP : va_P D vwCl ((wx cI q sh sp ld nm (upd tx (u.1 * 4 + u.2.1) (nI (32768 * u.2.2.2 + u.2.2.1))) (upd ds (u.1 * 4 + u.2.1) d0) (engF sh ct (u.1 * 4 + u.2.1) u.2.2.1 u.2.2.2) (co + (plF (pwC (wdS sh) sp u.2.2.1 u.2.2.2)).toInt64) (nI 0) ks) ++ [wo o cJ f]) H := hP.sub [1, 2, 3, 4, 5, 6, 7, 8, 9, 0] rfl
    have hD : va_D _ ((wx cI q sh sp ld nm (upd tx (u.1 * 4 + u.2.1) (nI (32768 * u.2.2.2 + u.2.2.1))) (upd ds (u.1 * 4 + u.2.1) d0) (engF sh ct (u.1 * 4 + u.2.1) u.2.2.1 u.2.2.2) (co + (plF (pwC (wdS sh) sp u.2.2.1 u.2.2.2)).toInt64) (nI 0) ks) ++ [wo o cJ f]) := hD.sub [1, 2, 3, 4, 5, 6, 7, 8, 9, 0] (by decide) rfl
    refine lv_i2l (v := (plF (pwC (wdS sh) sp u.2.2.1 u.2.2.2)).toInt64) hx hb dL_cut_14 rfl ?_
    refine va_last hx hb hK hP hD hS 9 1 rfl rfl (vp_in_nI (by decide) (by decide)) dL_cut_15 (fun H locs hP hD hS => ?_)
    have hP : va_P D vwCl ((wx cI q sh sp ld nm (upd tx (u.1 * 4 + u.2.1) (nI (32768 * u.2.2.2 + u.2.2.1))) (upd ds (u.1 * 4 + u.2.1) d0) (engF sh ct (u.1 * 4 + u.2.1) u.2.2.1 u.2.2.2) (co + (plF (pwC (wdS sh) sp u.2.2.1 u.2.2.2)).toInt64) (nI 0) ks) ++ [wo o cJ (vp_updL f 0 ((plF (pwC (wdS sh) sp u.2.2.1 u.2.2.2)).toInt64))]) H := hP
    refine lv_goto (tgt := 31) hx hb dL_cut_16 (by decide) ?_
    refine lv_iconst (v := nI 0) hx hb dL_cut_31 (by decide) ?_
    exact k_wiret (some u) hx hb hr hlocks dL_cut_32 hu rfl hP hS (Nat.le_of_ble_eq_true rfl) (Nat.le_of_ble_eq_true rfl)
set_option maxHeartbeats 4000000 in
set_option maxRecDepth 100000 in
theorem c_L_remove (l : Launch) (hst : l.stackTraces = false) (D : va_G) (cI : ClassId) (q : Nat → Nat) (sh sp ld nm tx ds ct : Nat → Int32) (co : Int64) (kg : Int32) (ks : Nat → Int32) (p0 x0 : Int32) (o : Nat) (cJ : ClassId) (f : Nat → Int64) (hDt : va_D (fun _ => True) ((wx cI q sh sp ld nm tx ds ct co kg ks) ++ [wo o cJ f])) : Met l yL_remove wsL_remove ({ frames := 9, cells := 8, slots := 48, locals := 155 } : Room) (k_P [.ref (q 0), .int p0, .int x0, .ref o] (fun U => k_B D ((wx cI q sh sp ld nm tx ds ct co kg ks) ++ [wo o cJ f]) [(cI, .int), (cJ, .long)] U ∧ k_ex U ∧ k_nc U)) (k_WQ D ((wx cI q sh sp ld nm tx ds ct co kg ks) ++ [wo o cJ f]) (fun u : Option (Nat × Nat) => u.elim (cd1 (inB p0 8 && inB x0 4) ≠ 0) (fun u => cd1 (inB p0 8 && inB x0 4) = 0 ∧ u.1 < 8 ∧ p0 = nI u.1 ∧ u.2 < 4 ∧ x0 = nI u.2)) (fun u => u.elim (wx cI q sh sp ld nm tx ds ct co kg ks) (fun u => wx cI q sh sp ld nm (upd tx (u.1 * 4 + u.2) (nI 0)) ds ct co (nI 0) ks) ++ [wo o cJ (u.elim f (fun u => vp_updL f 0 (bL (!decide (tx (u.1 * 4 + u.2) = 0)))))]) (fun u => some (.int (nI (u.elim (cd1 (inB p0 8 && inB x0 4)) (fun _ => 0)))))) 8 48 (k_A ((wx cI q sh sp ld nm tx ds ct co kg ks) ++ [wo o cJ f])) := by
  refine k_headT (cc := cL_remove) (maxL := 5) (ret := some .int) (hh := [(0, 17, 20, 13)]) [(0, .ref (q 0)), (1, .int p0), (2, .int x0), (3, .ref o)] (by decide) rfl (Nat.le_of_ble_eq_true rfl) rfl ?_
  intro p e s m below meth c ls hx hb hr hml hown hts hlocks htab hB hl
  have hown : s.vm.findClass RL = some m.cls := hown
  obtain ⟨⟨hP, hK⟩, hex, hnc⟩ := hB
  have hD := k_A_D hDt
  have hS : va_S (k_A ((wx cI q sh sp ld nm tx ds ct co kg ks) ++ [wo o cJ f])) s.heap s.heap [] := va_S.rf
  have hP : va_P D vwCl ((wx cI q sh sp ld nm tx ds ct co kg ks) ++ [wo o cJ f]) s.heap := hP
  refine lv_aload_n hx hb dL_remove_0 rfl (lv_at hl 3 rfl) ?_
  refine lv_iconst (v := nI 0) hx hb dL_remove_1 (by decide) ?_
  refine lv_aload_n hx hb dL_remove_2 rfl (lv_at hl 0 rfl) ?_
  refine lv_iload_n hx hb dL_remove_3 rfl (lv_at hl 1 rfl) ?_
  refine lv_iload_n hx hb dL_remove_4 rfl (lv_at hl 2 rfl) ?_
  refine k_callXW (wr := [wo o cJ f]) (As := [.int p0, .int x0]) (rest := [.int (nI 0), .ref o]) ⟨hx, hb, hml, hown, hts⟩ (c_X0_remove l hst D cI q sh sp ld nm tx ds ct co kg ks p0 x0 (hDt.sub [0, 1, 2, 3, 4, 5, 6, 7, 8] (by decide) rfl)) (cwV 2 hts gL_remove_X0_remove rfl rfl rfl (by decide +kernel) ⟨Nat.le_of_ble_eq_true rfl, Nat.le_of_ble_eq_true rfl⟩) (k_ex_and k_B_bl) (fun U hU hW => ⟨k_B_of (hP.sub [0, 1, 2, 3, 4, 5, 6, 7, 8] rfl) (hK.sub [0] rfl) U hU hW, k_ex_of hex U hU hW⟩) (va_recv hK hP (ci := 0) (q0 := 0) rfl rfl) rfl hl.1 rfl (Nat.le_of_ble_eq_true rfl) dL_remove_5 ⟨Nat.le_of_ble_eq_true rfl, Nat.le_of_ble_eq_true rfl⟩ hP hD hS [9] [0, 1, 2, 3, 4, 5, 6, 7, 8] rfl rfl (fun _ => rfl) ?_ ?_
  · intro E ce q9 H locs hE hP hS hce hcv hcl
    have hE := List.mem_singleton.mp hE
    obtain ⟨hE1, hcd⟩ := Prod.mk.inj hE
    subst hE1
    refine vx_catch (own := RL) (name := k_IO) (E := k_IO) hown [] ⟨0, 17, 20, 13⟩ [] htab (fun z hz => absurd hz List.not_mem_nil) (by decide) (by decide) (hts (.classLink RL 13 k_IO) (by decide +kernel)) (va_Nw.use (k_nw_ot _ (List.mem_of_getElem? (i := 3) rfl)) (hex.2.2.1 _ (List.mem_of_getElem? (i := 3) rfl))) hce hcv hcl ?_
    refine lv_astore (lv' := [(4, .ref q9), (0, .ref (q 0)), (1, .int p0), (2, .int x0), (3, .ref o)]) hx hb dL_remove_20 hl (by decide) rfl (fun ls hl => ?_)
    refine lv_iconst (v := nI 1) hx hb dL_remove_22 (by decide) ?_
    exact k_wiret none hx hb hr hlocks dL_remove_23 (show cd1 (inB p0 8 && inB x0 4) ≠ 0 by rw [hcd]; decide) (congrArg (fun n => some (Value.int (nI n))) hcd) hP hS (Nat.le_of_ble_eq_true rfl) (Nat.le_of_ble_eq_true rfl)
  · intro u H locs hu hP hD hS
    have hP : va_P D vwCl ((wx cI q sh sp ld nm (upd tx (u.1 * 4 + u.2) (nI 0)) ds ct co (nI 0) ks) ++ [wo o cJ f]) H := hP.sub [1, 2, 3, 4, 5, 6, 7, 8, 9, 0] rfl
    have hD : va_D _ ((wx cI q sh sp ld nm (upd tx (u.1 * 4 + u.2) (nI 0)) ds ct co (nI 0) ks) ++ [wo o cJ f]) := hD.sub [1, 2, 3, 4, 5, 6, 7, 8, 9, 0] (by decide) rfl
    have hP0 := hP
    refine b_if_eq (b := (!decide (tx (u.1 * 4 + u.2) = 0))) (tgt := 15) hx hb dL_remove_8 (by decide) (fun c8 => ?_) (fun c8 => ?_)
    · skip
      refine lv_lconst (v := 0) hx hb dL_remove_15 (by decide) ?_
      refine va_last (x := 0) hx hb hK hP hD hS 9 1 rfl rfl (vp_in_nI (by decide) (by decide)) dL_remove_16 (fun H locs hP hD hS => ?_)
      have hP : va_P D vwCl ((wx cI q sh sp ld nm (upd tx (u.1 * 4 + u.2) (nI 0)) ds ct co (nI 0) ks) ++ [wo o cJ (vp_updL f 0 (bL (!decide (tx (u.1 * 4 + u.2) = 0))))]) H := by rw [show bL (!decide (tx (u.1 * 4 + u.2) = 0)) = 0 from by rw [c8]; rfl]; exact hP
      refine lv_goto (tgt := 24) hx hb dL_remove_17 (by decide) ?_
      refine lv_iconst (v := nI 0) hx hb dL_remove_24 (by decide) ?_
      exact k_wiret (some u) hx hb hr hlocks dL_remove_25 hu rfl hP hS (Nat.le_of_ble_eq_true rfl) (Nat.le_of_ble_eq_true rfl)
    · skip
      refine lv_lconst (v := 1) hx hb dL_remove_11 (by decide) ?_
      refine lv_goto (tgt := 16) hx hb dL_remove_12 (by decide) ?_
      refine va_last (x := 1) hx hb hK hP hD hS 9 1 rfl rfl (vp_in_nI (by decide) (by decide)) dL_remove_16 (fun H locs hP hD hS => ?_)
      have hP : va_P D vwCl ((wx cI q sh sp ld nm (upd tx (u.1 * 4 + u.2) (nI 0)) ds ct co (nI 0) ks) ++ [wo o cJ (vp_updL f 0 (bL (!decide (tx (u.1 * 4 + u.2) = 0))))]) H := by rw [show bL (!decide (tx (u.1 * 4 + u.2) = 0)) = 1 from by rw [c8]; rfl]; exact hP
      refine lv_goto (tgt := 24) hx hb dL_remove_17 (by decide) ?_
      refine lv_iconst (v := nI 0) hx hb dL_remove_24 (by decide) ?_
      exact k_wiret (some u) hx hb hr hlocks dL_remove_25 hu rfl hP hS (Nat.le_of_ble_eq_true rfl) (Nat.le_of_ble_eq_true rfl)
set_option maxHeartbeats 4000000 in
set_option maxRecDepth 100000 in
theorem c_L_isOld (l : Launch) (hst : l.stackTraces = false) (D : va_G) (cI : ClassId) (q : Nat → Nat) (sh sp ld nm tx ds ct : Nat → Int32) (co : Int64) (kg : Int32) (ks : Nat → Int32) (p0 x0 : Int32) (T K : Nat → Nat) (hG : ∀ w, w < 32 → T w < 32768 ∧ K w ≤ 5 ∧ tx w = nI (32768 * K w + T w) ∧ ∀ j, j < K w → S25 (ct (w * 5 + j))) (o : Nat) (cJ : ClassId) (f : Nat → Int64) (hDt : va_D (fun _ => True) ((wx cI q sh sp ld nm tx ds ct co kg ks) ++ [wo o cJ f])) : Met l yL_isOld wsL_isOld ({ frames := 9, cells := 8, slots := 48, locals := 153 } : Room) (k_P [.ref (q 0), .int p0, .int x0, .ref o] (fun U => k_B D ((wx cI q sh sp ld nm tx ds ct co kg ks) ++ [wo o cJ f]) [(cI, .int), (cJ, .long)] U ∧ k_ex U ∧ k_nc U)) (k_WQ D ((wx cI q sh sp ld nm tx ds ct co kg ks) ++ [wo o cJ f]) (fun u : Option (Nat × Nat) => u.elim (cd1 (inB p0 8 && inB x0 4) ≠ 0) (fun u => cd1 (inB p0 8 && inB x0 4) = 0 ∧ u.1 < 8 ∧ p0 = nI u.1 ∧ u.2 < 4 ∧ x0 = nI u.2)) (fun u => u.elim (wx cI q sh sp ld nm tx ds ct co kg ks) (fun u => wx cI q sh sp ld nm tx ds ct co kg ks) ++ [wo o cJ (u.elim f (fun u => vp_updL f 0 (bL (anyB (oldC sh ct (u.1 * 4 + u.2) (T (u.1 * 4 + u.2))) (K (u.1 * 4 + u.2))))))]) (fun u => some (.int (nI (u.elim (cd1 (inB p0 8 && inB x0 4)) (fun _ => 0)))))) 8 48 (k_A ((wx cI q sh sp ld nm tx ds ct co kg ks) ++ [wo o cJ f])) := by
  refine k_headT (cc := cL_isOld) (maxL := 5) (ret := some .int) (hh := [(0, 17, 20, 13)]) [(0, .ref (q 0)), (1, .int p0), (2, .int x0), (3, .ref o)] (by decide) rfl (Nat.le_of_ble_eq_true rfl) rfl ?_
  intro p e s m below meth c ls hx hb hr hml hown hts hlocks htab hB hl
  have hown : s.vm.findClass RL = some m.cls := hown
  obtain ⟨⟨hP, hK⟩, hex, hnc⟩ := hB
  have hD := k_A_D hDt
  have hS : va_S (k_A ((wx cI q sh sp ld nm tx ds ct co kg ks) ++ [wo o cJ f])) s.heap s.heap [] := va_S.rf
  have hP : va_P D vwCl ((wx cI q sh sp ld nm tx ds ct co kg ks) ++ [wo o cJ f]) s.heap := hP
  refine lv_aload_n hx hb dL_isOld_0 rfl (lv_at hl 3 rfl) ?_
  refine lv_iconst (v := nI 0) hx hb dL_isOld_1 (by decide) ?_
  refine lv_aload_n hx hb dL_isOld_2 rfl (lv_at hl 0 rfl) ?_
  refine lv_iload_n hx hb dL_isOld_3 rfl (lv_at hl 1 rfl) ?_
  refine lv_iload_n hx hb dL_isOld_4 rfl (lv_at hl 2 rfl) ?_
  refine k_callXW (wr := [wo o cJ f]) (As := [.int p0, .int x0]) (rest := [.int (nI 0), .ref o]) ⟨hx, hb, hml, hown, hts⟩ (c_X0_isOld l hst D cI q sh sp ld nm tx ds ct co kg ks p0 x0 T K hG (hDt.sub [0, 1, 2, 3, 4, 5, 6, 7, 8] (by decide) rfl)) (cwV 2 hts gL_isOld_X0_isOld rfl rfl rfl (by decide +kernel) ⟨Nat.le_of_ble_eq_true rfl, Nat.le_of_ble_eq_true rfl⟩) (k_ex_and k_B_bl) (fun U hU hW => ⟨k_B_of (hP.sub [0, 1, 2, 3, 4, 5, 6, 7, 8] rfl) (hK.sub [0] rfl) U hU hW, k_ex_of hex U hU hW⟩) (va_recv hK hP (ci := 0) (q0 := 0) rfl rfl) rfl hl.1 rfl (Nat.le_of_ble_eq_true rfl) dL_isOld_5 ⟨Nat.le_of_ble_eq_true rfl, Nat.le_of_ble_eq_true rfl⟩ hP hD hS [9] [0, 1, 2, 3, 4, 5, 6, 7, 8] rfl rfl (fun _ => rfl) ?_ ?_
  · intro E ce q9 H locs hE hP hS hce hcv hcl
    have hE := List.mem_singleton.mp hE
    obtain ⟨hE1, hcd⟩ := Prod.mk.inj hE
    subst hE1
    refine vx_catch (own := RL) (name := k_IO) (E := k_IO) hown [] ⟨0, 17, 20, 13⟩ [] htab (fun z hz => absurd hz List.not_mem_nil) (by decide) (by decide) (hts (.classLink RL 13 k_IO) (by decide +kernel)) (va_Nw.use (k_nw_ot _ (List.mem_of_getElem? (i := 3) rfl)) (hex.2.2.1 _ (List.mem_of_getElem? (i := 3) rfl))) hce hcv hcl ?_
    refine lv_astore (lv' := [(4, .ref q9), (0, .ref (q 0)), (1, .int p0), (2, .int x0), (3, .ref o)]) hx hb dL_isOld_20 hl (by decide) rfl (fun ls hl => ?_)
    refine lv_iconst (v := nI 1) hx hb dL_isOld_22 (by decide) ?_
    exact k_wiret none hx hb hr hlocks dL_isOld_23 (show cd1 (inB p0 8 && inB x0 4) ≠ 0 by rw [hcd]; decide) (congrArg (fun n => some (Value.int (nI n))) hcd) hP hS (Nat.le_of_ble_eq_true rfl) (Nat.le_of_ble_eq_true rfl)
  · intro u H locs hu hP hD hS
    have hP : va_P D vwCl ((wx cI q sh sp ld nm tx ds ct co kg ks) ++ [wo o cJ f]) H := hP.sub [1, 2, 3, 4, 5, 6, 7, 8, 9, 0] rfl
    have hD : va_D _ ((wx cI q sh sp ld nm tx ds ct co kg ks) ++ [wo o cJ f]) := hD.sub [1, 2, 3, 4, 5, 6, 7, 8, 9, 0] (by decide) rfl
    have hP0 := hP
    refine b_if_eq (b := (anyB (oldC sh ct (u.1 * 4 + u.2) (T (u.1 * 4 + u.2))) (K (u.1 * 4 + u.2)))) (tgt := 15) hx hb dL_isOld_8 (by decide) (fun c8 => ?_) (fun c8 => ?_)
    · skip
      refine lv_lconst (v := 0) hx hb dL_isOld_15 (by decide) ?_
      refine va_last (x := 0) hx hb hK hP hD hS 9 1 rfl rfl (vp_in_nI (by decide) (by decide)) dL_isOld_16 (fun H locs hP hD hS => ?_)
      have hP : va_P D vwCl ((wx cI q sh sp ld nm tx ds ct co kg ks) ++ [wo o cJ (vp_updL f 0 (bL (anyB (oldC sh ct (u.1 * 4 + u.2) (T (u.1 * 4 + u.2))) (K (u.1 * 4 + u.2)))))]) H := by rw [show bL (anyB (oldC sh ct (u.1 * 4 + u.2) (T (u.1 * 4 + u.2))) (K (u.1 * 4 + u.2))) = 0 from by rw [c8]; rfl]; exact hP
      refine lv_goto (tgt := 24) hx hb dL_isOld_17 (by decide) ?_
      refine lv_iconst (v := nI 0) hx hb dL_isOld_24 (by decide) ?_
      exact k_wiret (some u) hx hb hr hlocks dL_isOld_25 hu rfl hP hS (Nat.le_of_ble_eq_true rfl) (Nat.le_of_ble_eq_true rfl)
    · skip
      refine lv_lconst (v := 1) hx hb dL_isOld_11 (by decide) ?_
      refine lv_goto (tgt := 16) hx hb dL_isOld_12 (by decide) ?_
      refine va_last (x := 1) hx hb hK hP hD hS 9 1 rfl rfl (vp_in_nI (by decide) (by decide)) dL_isOld_16 (fun H locs hP hD hS => ?_)
      have hP : va_P D vwCl ((wx cI q sh sp ld nm tx ds ct co kg ks) ++ [wo o cJ (vp_updL f 0 (bL (anyB (oldC sh ct (u.1 * 4 + u.2) (T (u.1 * 4 + u.2))) (K (u.1 * 4 + u.2)))))]) H := by rw [show bL (anyB (oldC sh ct (u.1 * 4 + u.2) (T (u.1 * 4 + u.2))) (K (u.1 * 4 + u.2))) = 1 from by rw [c8]; rfl]; exact hP
      refine lv_goto (tgt := 24) hx hb dL_isOld_17 (by decide) ?_
      refine lv_iconst (v := nI 0) hx hb dL_isOld_24 (by decide) ?_
      exact k_wiret (some u) hx hb hr hlocks dL_isOld_25 hu rfl hP hS (Nat.le_of_ble_eq_true rfl) (Nat.le_of_ble_eq_true rfl)
set_option maxHeartbeats 4000000 in
set_option maxRecDepth 100000 in
theorem c_L_remake (l : Launch) (hst : l.stackTraces = false) (D : va_G) (cI : ClassId) (q : Nat → Nat) (sh sp ld nm tx ds ct : Nat → Int32) (co : Int64) (kg : Int32) (ks : Nat → Int32) (T K : Nat → Nat) (hG : ∀ w, w < 32 → T w < 32768 ∧ K w ≤ 5 ∧ tx w = nI (32768 * K w + T w) ∧ ∀ j, j < K w → S25 (ct (w * 5 + j))) (o : Nat) (cJ : ClassId) (f : Nat → Int64) (hDt : va_D (fun _ => True) ((wx cI q sh sp ld nm tx ds ct co kg ks) ++ [wo o cJ f])) : Met l yL_remake wsL_remake ({ frames := 8, cells := 8, slots := 48, locals := 184 } : Room) (k_P [.ref (q 0), .ref o] (fun U => k_B D ((wx cI q sh sp ld nm tx ds ct co kg ks) ++ [wo o cJ f]) [(cI, .int), (cJ, .long)] U ∧ k_ex U ∧ k_nc U)) (k_WQ D ((wx cI q sh sp ld nm tx ds ct co kg ks) ++ [wo o cJ f]) (fun u : Option ((Nat → Int32) × Int64 × Int32) => u.elim (cd1 (!anyB (badC sh sp ct T K) 32) ≠ 0) (fun u => cd1 (!anyB (badC sh sp ct T K) 32) = 0 ∧ rmF sh (pltC sh sp T K) T K ct co 32 = u)) (fun u => u.elim (wx cI q sh sp ld nm tx ds ct co kg ks) (fun u => wx cI q sh sp ld nm tx ds u.1 u.2.1 (nI 0) ks) ++ [wo o cJ (u.elim f (fun u => vp_updL f 0 (u.2.2.toInt64)))]) (fun u => some (.int (nI (u.elim (cd1 (!anyB (badC sh sp ct T K) 32)) (fun _ => 0)))))) 8 48 (k_A ((wx cI q sh sp ld nm tx ds ct co kg ks) ++ [wo o cJ f])) := by
  refine k_headT (cc := cL_remake) (maxL := 3) (ret := some .int) (hh := [(0, 8, 11, 43)]) [(0, .ref (q 0)), (1, .ref o)] (by decide) rfl (Nat.le_of_ble_eq_true rfl) rfl ?_
  intro p e s m below meth c ls hx hb hr hml hown hts hlocks htab hB hl
  have hown : s.vm.findClass RL = some m.cls := hown
  obtain ⟨⟨hP, hK⟩, hex, hnc⟩ := hB
  have hD := k_A_D hDt
  have hS : va_S (k_A ((wx cI q sh sp ld nm tx ds ct co kg ks) ++ [wo o cJ f])) s.heap s.heap [] := va_S.rf
  have hP : va_P D vwCl ((wx cI q sh sp ld nm tx ds ct co kg ks) ++ [wo o cJ f]) s.heap := hP
  refine lv_aload_n hx hb dL_remake_0 rfl (lv_at hl 1 rfl) ?_
  refine lv_iconst (v := nI 0) hx hb dL_remake_1 (by decide) ?_
  refine lv_aload_n hx hb dL_remake_2 rfl (lv_at hl 0 rfl) ?_
  refine k_callXW (wr := [wo o cJ f]) (As := []) (rest := [.int (nI 0), .ref o]) ⟨hx, hb, hml, hown, hts⟩ (c_X0_remake l hst D cI q sh sp ld nm tx ds ct co kg ks T K hG (hDt.sub [0, 1, 2, 3, 4, 5, 6, 7, 8] (by decide) rfl)) (cwV 0 hts gL_remake_X0_remake rfl rfl rfl (by decide +kernel) ⟨Nat.le_of_ble_eq_true rfl, Nat.le_of_ble_eq_true rfl⟩) (k_ex_and k_B_bl) (fun U hU hW => ⟨k_B_of (hP.sub [0, 1, 2, 3, 4, 5, 6, 7, 8] rfl) (hK.sub [0] rfl) U hU hW, k_ex_of hex U hU hW⟩) (va_recv hK hP (ci := 0) (q0 := 0) rfl rfl) rfl hl.1 rfl (Nat.le_of_ble_eq_true rfl) dL_remake_3 ⟨Nat.le_of_ble_eq_true rfl, Nat.le_of_ble_eq_true rfl⟩ hP hD hS [9] [0, 1, 2, 3, 4, 5, 6, 7, 8] rfl rfl (fun _ => rfl) ?_ ?_
  · intro E ce q9 H locs hE hP hS hce hcv hcl
    have hE := List.mem_singleton.mp hE
    obtain ⟨hE1, hcd⟩ := Prod.mk.inj hE
    subst hE1
    refine vx_catch (own := RL) (name := k_IS) (E := k_IS) hown [] ⟨0, 8, 11, 43⟩ [] htab (fun z hz => absurd hz List.not_mem_nil) (by decide) (by decide) (hts (.classLink RL 43 k_IS) (by decide +kernel)) (va_Nw.use (k_nw_ot _ (List.mem_of_getElem? (i := 5) rfl)) (hex.2.2.1 _ (List.mem_of_getElem? (i := 5) rfl))) hce hcv hcl ?_
    refine lv_astore_n (lv' := [(2, .ref q9), (0, .ref (q 0)), (1, .ref o)]) hx hb dL_remake_11 rfl hl (by decide) rfl (fun ls hl => ?_)
    refine lv_iconst (v := nI 1) hx hb dL_remake_12 (by decide) ?_
    exact k_wiret none hx hb hr hlocks dL_remake_13 (show cd1 (!anyB (badC sh sp ct T K) 32) ≠ 0 by rw [hcd]; decide) (congrArg (fun n => some (Value.int (nI n))) hcd) hP hS (Nat.le_of_ble_eq_true rfl) (Nat.le_of_ble_eq_true rfl)
  · intro u H locs hu hP hD hS
    have hP : va_P D vwCl ((wx cI q sh sp ld nm tx ds u.1 u.2.1 (nI 0) ks) ++ [wo o cJ f]) H := hP.sub [1, 2, 3, 4, 5, 6, 7, 8, 9, 0] rfl
    have hD : va_D _ ((wx cI q sh sp ld nm tx ds u.1 u.2.1 (nI 0) ks) ++ [wo o cJ f]) := hD.sub [1, 2, 3, 4, 5, 6, 7, 8, 9, 0] (by decide) rfl
    refine lv_i2l (v := u.2.2.toInt64) hx hb dL_remake_6 rfl ?_
    refine va_last hx hb hK hP hD hS 9 1 rfl rfl (vp_in_nI (by decide) (by decide)) dL_remake_7 (fun H locs hP hD hS => ?_)
    have hP : va_P D vwCl ((wx cI q sh sp ld nm tx ds u.1 u.2.1 (nI 0) ks) ++ [wo o cJ (vp_updL f 0 (u.2.2.toInt64))]) H := hP
    refine lv_goto (tgt := 14) hx hb dL_remake_8 (by decide) ?_
    refine lv_iconst (v := nI 0) hx hb dL_remake_14 (by decide) ?_
    exact k_wiret (some u) hx hb hr hlocks dL_remake_15 hu rfl hP hS (Nat.le_of_ble_eq_true rfl) (Nat.le_of_ble_eq_true rfl)
set_option maxHeartbeats 4000000 in
set_option maxRecDepth 100000 in
theorem c_L_read (l : Launch) (hst : l.stackTraces = false) (D : va_G) (cI : ClassId) (q : Nat → Nat) (sh sp ld nm tx ds ct : Nat → Int32) (co : Int64) (kg : Int32) (ks : Nat → Int32) (p0 x0 : Int32) (T K : Nat → Nat) (hG : ∀ w, w < 32 → T w < 32768 ∧ K w ≤ 5 ∧ tx w = nI (32768 * K w + T w) ∧ ∀ j, j < K w → S25 (ct (w * 5 + j))) (hsh : ∀ g, g < 8 → S25 (sh g)) (hS0 : ∀ w, w < 32 → T w < 8 ^ K w) (o : Nat) (cJ : ClassId) (f : Nat → Int64) (hDt : va_D (fun _ => True) ((wx cI q sh sp ld nm tx ds ct co kg ks) ++ [wo o cJ f])) : Met l yL_read wsL_read ({ frames := 9, cells := 8, slots := 48, locals := 154 } : Room) (k_P [.ref (q 0), .int p0, .int x0, .ref o] (fun U => k_B D ((wx cI q sh sp ld nm tx ds ct co kg ks) ++ [wo o cJ f]) [(cI, .int), (cJ, .long)] U ∧ k_ex U ∧ k_nc U)) (k_WQ D ((wx cI q sh sp ld nm tx ds ct co kg ks) ++ [wo o cJ f]) (fun u : Option (Nat × Nat) => u.elim (cd1 (inB p0 8 && inB x0 4) ≠ 0) (fun u => cd1 (inB p0 8 && inB x0 4) = 0 ∧ u.1 < 8 ∧ p0 = nI u.1 ∧ u.2 < 4 ∧ x0 = nI u.2)) (fun u => u.elim (wx cI q sh sp ld nm tx ds ct co kg ks) (fun u => wx cI q sh sp ld nm tx ds ct co kg ks) ++ [wo o cJ (u.elim f (fun u => vp_updL f 0 ((if K (u.1 * 4 + u.2) = 0 then (-1) else nI (rtN (rdS sh ct ds (u.1 * 4 + u.2)) (K (u.1 * 4 + u.2)))).toInt64)))]) (fun u => some (.int (nI (u.elim (cd1 (inB p0 8 && inB x0 4)) (fun _ => 0)))))) 8 48 (k_A ((wx cI q sh sp ld nm tx ds ct co kg ks) ++ [wo o cJ f])) := by
  refine k_headT (cc := cL_read) (maxL := 5) (ret := some .int) (hh := [(0, 10, 13, 13)]) [(0, .ref (q 0)), (1, .int p0), (2, .int x0), (3, .ref o)] (by decide) rfl (Nat.le_of_ble_eq_true rfl) rfl ?_
  intro p e s m below meth c ls hx hb hr hml hown hts hlocks htab hB hl
  have hown : s.vm.findClass RL = some m.cls := hown
  obtain ⟨⟨hP, hK⟩, hex, hnc⟩ := hB
  have hD := k_A_D hDt
  have hS : va_S (k_A ((wx cI q sh sp ld nm tx ds ct co kg ks) ++ [wo o cJ f])) s.heap s.heap [] := va_S.rf
  have hP : va_P D vwCl ((wx cI q sh sp ld nm tx ds ct co kg ks) ++ [wo o cJ f]) s.heap := hP
  refine lv_aload_n hx hb dL_read_0 rfl (lv_at hl 3 rfl) ?_
  refine lv_iconst (v := nI 0) hx hb dL_read_1 (by decide) ?_
  refine lv_aload_n hx hb dL_read_2 rfl (lv_at hl 0 rfl) ?_
  refine lv_iload_n hx hb dL_read_3 rfl (lv_at hl 1 rfl) ?_
  refine lv_iload_n hx hb dL_read_4 rfl (lv_at hl 2 rfl) ?_
  refine k_callXW (wr := [wo o cJ f]) (As := [.int p0, .int x0]) (rest := [.int (nI 0), .ref o]) ⟨hx, hb, hml, hown, hts⟩ (c_X0_read l hst D cI q sh sp ld nm tx ds ct co kg ks p0 x0 T K hG hsh hS0 (hDt.sub [0, 1, 2, 3, 4, 5, 6, 7, 8] (by decide) rfl)) (cwV 2 hts gL_read_X0_read rfl rfl rfl (by decide +kernel) ⟨Nat.le_of_ble_eq_true rfl, Nat.le_of_ble_eq_true rfl⟩) (k_ex_and k_B_bl) (fun U hU hW => ⟨k_B_of (hP.sub [0, 1, 2, 3, 4, 5, 6, 7, 8] rfl) (hK.sub [0] rfl) U hU hW, k_ex_of hex U hU hW⟩) (va_recv hK hP (ci := 0) (q0 := 0) rfl rfl) rfl hl.1 rfl (Nat.le_of_ble_eq_true rfl) dL_read_5 ⟨Nat.le_of_ble_eq_true rfl, Nat.le_of_ble_eq_true rfl⟩ hP hD hS [9] [0, 1, 2, 3, 4, 5, 6, 7, 8] rfl rfl (fun _ => rfl) ?_ ?_
  · intro E ce q9 H locs hE hP hS hce hcv hcl
    have hE := List.mem_singleton.mp hE
    obtain ⟨hE1, hcd⟩ := Prod.mk.inj hE
    subst hE1
    refine vx_catch (own := RL) (name := k_IO) (E := k_IO) hown [] ⟨0, 10, 13, 13⟩ [] htab (fun z hz => absurd hz List.not_mem_nil) (by decide) (by decide) (hts (.classLink RL 13 k_IO) (by decide +kernel)) (va_Nw.use (k_nw_ot _ (List.mem_of_getElem? (i := 3) rfl)) (hex.2.2.1 _ (List.mem_of_getElem? (i := 3) rfl))) hce hcv hcl ?_
    refine lv_astore (lv' := [(4, .ref q9), (0, .ref (q 0)), (1, .int p0), (2, .int x0), (3, .ref o)]) hx hb dL_read_13 hl (by decide) rfl (fun ls hl => ?_)
    refine lv_iconst (v := nI 1) hx hb dL_read_15 (by decide) ?_
    exact k_wiret none hx hb hr hlocks dL_read_16 (show cd1 (inB p0 8 && inB x0 4) ≠ 0 by rw [hcd]; decide) (congrArg (fun n => some (Value.int (nI n))) hcd) hP hS (Nat.le_of_ble_eq_true rfl) (Nat.le_of_ble_eq_true rfl)
  · intro u H locs hu hP hD hS
    have hP : va_P D vwCl ((wx cI q sh sp ld nm tx ds ct co kg ks) ++ [wo o cJ f]) H := hP.sub [1, 2, 3, 4, 5, 6, 7, 8, 9, 0] rfl
    have hD : va_D _ ((wx cI q sh sp ld nm tx ds ct co kg ks) ++ [wo o cJ f]) := hD.sub [1, 2, 3, 4, 5, 6, 7, 8, 9, 0] (by decide) rfl
    refine lv_i2l (v := (if K (u.1 * 4 + u.2) = 0 then (-1) else nI (rtN (rdS sh ct ds (u.1 * 4 + u.2)) (K (u.1 * 4 + u.2)))).toInt64) hx hb dL_read_8 rfl ?_
    refine va_last hx hb hK hP hD hS 9 1 rfl rfl (vp_in_nI (by decide) (by decide)) dL_read_9 (fun H locs hP hD hS => ?_)
    have hP : va_P D vwCl ((wx cI q sh sp ld nm tx ds ct co kg ks) ++ [wo o cJ (vp_updL f 0 ((if K (u.1 * 4 + u.2) = 0 then (-1) else nI (rtN (rdS sh ct ds (u.1 * 4 + u.2)) (K (u.1 * 4 + u.2)))).toInt64))]) H := hP
    refine lv_goto (tgt := 17) hx hb dL_read_10 (by decide) ?_
    refine lv_iconst (v := nI 0) hx hb dL_read_17 (by decide) ?_
    exact k_wiret (some u) hx hb hr hlocks dL_read_18 hu rfl hP hS (Nat.le_of_ble_eq_true rfl) (Nat.le_of_ble_eq_true rfl)
set_option maxHeartbeats 4000000 in
set_option maxRecDepth 100000 in
theorem c_L_walk (l : Launch) (hst : l.stackTraces = false) (D : va_G) (cI : ClassId) (q : Nat → Nat) (sh sp ld nm tx ds ct : Nat → Int32) (co : Int64) (kg : Int32) (ks : Nat → Int32) (p0 t m0 : Int32) (T K : Nat → Nat) (hG : ∀ w, w < 32 → T w < 32768 ∧ K w ≤ 5 ∧ tx w = nI (32768 * K w + T w) ∧ ∀ j, j < K w → S25 (ct (w * 5 + j))) (Ld : Nat → Nat) (hLd : ∀ w, w < 32 → Ld w ≤ 8 ∧ ld w = ix (Ld w)) (hsh : ∀ g, g < 8 → S25 (sh g)) (NT NK : Nat → Nat) (hN : ∀ p, p < 8 → NT p < 32768 ∧ NK p ≤ 5 ∧ nm p = nI (32768 * NK p + NT p)) (hKp : kpOK (fun gk gt p => sa (toldC sh ct ds K gk gt) Ld (arrC NK NT gk gt) 31 0 p tk0) kg ks) (o : Nat) (cJ : ClassId) (f : Nat → Int64) (hDt : va_D (fun _ => True) ((wx cI q sh sp ld nm tx ds ct co kg ks) ++ [wo o cJ f])) : Met l yL_walk wsL_walk ({ frames := 8, cells := 8, slots := 48, locals := 191 } : Room) (k_P [.ref (q 0), .int p0, .int t, .int m0, .ref o] (fun U => k_B D ((wx cI q sh sp ld nm tx ds ct co kg ks) ++ [wo o cJ f]) [(cI, .int), (cJ, .long)] U ∧ k_ex U ∧ k_nc U)) (k_WQ D ((wx cI q sh sp ld nm tx ds ct co kg ks) ++ [wo o cJ f]) (fun u : Option ((Nat × Nat × Nat) × Int32 × (Nat → Int32)) => u.elim (cd2 (inB p0 8) (txB t m0) ≠ 0) (fun u => cd2 (inB p0 8) (txB t m0) = 0 ∧ u.1.1 < 8 ∧ p0 = nI u.1.1 ∧ 1 ≤ u.1.2.2 ∧ u.1.2.2 ≤ 5 ∧ u.1.2.1 < 8 ^ u.1.2.2 ∧ t = nI u.1.2.1 ∧ m0 = nI u.1.2.2 ∧ kpOK (fun gk gt p => sa (toldC sh ct ds K gk gt) Ld (arrC NK NT gk gt) 31 0 p tk0) u.2.1 u.2.2)) (fun u => u.elim (wx cI q sh sp ld nm tx ds ct co kg ks) (fun u => wx cI q sh sp ld nm tx ds ct co u.2.1 u.2.2) ++ [wo o cJ (u.elim f (fun u => vp_updL f 0 ((sa (toldC sh ct ds K u.1.2.2 u.1.2.1) Ld (arrC NK NT u.1.2.2 u.1.2.1) 31 0 u.1.1 tk0).toInt64)))]) (fun u => some (.int (nI (u.elim (cd2 (inB p0 8) (txB t m0)) (fun _ => 0)))))) 8 48 (k_A ((wx cI q sh sp ld nm tx ds ct co kg ks) ++ [wo o cJ f])) := by
  refine k_headT (cc := cL_walk) (maxL := 6) (ret := some .int) (hh := [(0, 12, 15, 13), (0, 12, 19, 15)]) [(0, .ref (q 0)), (1, .int p0), (2, .int t), (3, .int m0), (4, .ref o)] (by decide) rfl (Nat.le_of_ble_eq_true rfl) rfl ?_
  intro p e s m below meth c ls hx hb hr hml hown hts hlocks htab hB hl
  have hown : s.vm.findClass RL = some m.cls := hown
  obtain ⟨⟨hP, hK⟩, hex, hnc⟩ := hB
  have hD := k_A_D hDt
  have hS : va_S (k_A ((wx cI q sh sp ld nm tx ds ct co kg ks) ++ [wo o cJ f])) s.heap s.heap [] := va_S.rf
  have hP : va_P D vwCl ((wx cI q sh sp ld nm tx ds ct co kg ks) ++ [wo o cJ f]) s.heap := hP
  refine lv_aload hx hb dL_walk_0 (lv_at hl 4 rfl) ?_
  refine lv_iconst (v := nI 0) hx hb dL_walk_2 (by decide) ?_
  refine lv_aload_n hx hb dL_walk_3 rfl (lv_at hl 0 rfl) ?_
  refine lv_iload_n hx hb dL_walk_4 rfl (lv_at hl 1 rfl) ?_
  refine lv_iload_n hx hb dL_walk_5 rfl (lv_at hl 2 rfl) ?_
  refine lv_iload_n hx hb dL_walk_6 rfl (lv_at hl 3 rfl) ?_
  refine k_callXW (wr := [wo o cJ f]) (As := [.int p0, .int t, .int m0]) (rest := [.int (nI 0), .ref o]) ⟨hx, hb, hml, hown, hts⟩ (c_X0_walk l hst D cI q sh sp ld nm tx ds ct co kg ks p0 t m0 T K hG Ld hLd hsh NT NK hN hKp (hDt.sub [0, 1, 2, 3, 4, 5, 6, 7, 8] (by decide) rfl)) (cwV 3 hts gL_walk_X0_walk rfl rfl rfl (by decide +kernel) ⟨Nat.le_of_ble_eq_true rfl, Nat.le_of_ble_eq_true rfl⟩) (k_ex_and k_B_bl) (fun U hU hW => ⟨k_B_of (hP.sub [0, 1, 2, 3, 4, 5, 6, 7, 8] rfl) (hK.sub [0] rfl) U hU hW, k_ex_of hex U hU hW⟩) (va_recv hK hP (ci := 0) (q0 := 0) rfl rfl) rfl hl.1 rfl (Nat.le_of_ble_eq_true rfl) dL_walk_7 ⟨Nat.le_of_ble_eq_true rfl, Nat.le_of_ble_eq_true rfl⟩ hP hD hS [9] [0, 1, 2, 3, 4, 5, 6, 7, 8] rfl rfl (fun _ => rfl) ?_ ?_
  · intro E ce q9 H locs hE hP hS hce hcv hcl
    rcases List.mem_cons.mp hE with hE | hE
    · obtain ⟨hE1, hcd⟩ := Prod.mk.inj hE
      subst hE1
      refine vx_catch (own := RL) (name := k_IO) (E := k_IO) hown [] ⟨0, 12, 15, 13⟩ [⟨0, 12, 19, 15⟩] htab (fun z hz => absurd hz List.not_mem_nil) (by decide) (by decide) (hts (.classLink RL 13 k_IO) (by decide +kernel)) (va_Nw.use (k_nw_ot _ (List.mem_of_getElem? (i := 3) rfl)) (hex.2.2.1 _ (List.mem_of_getElem? (i := 3) rfl))) hce hcv hcl ?_
      refine lv_astore (lv' := [(5, .ref q9), (0, .ref (q 0)), (1, .int p0), (2, .int t), (3, .int m0), (4, .ref o)]) hx hb dL_walk_15 hl (by decide) rfl (fun ls hl => ?_)
      refine lv_iconst (v := nI 1) hx hb dL_walk_17 (by decide) ?_
      exact k_wiret none hx hb hr hlocks dL_walk_18 (show cd2 (inB p0 8) (txB t m0) ≠ 0 by rw [hcd]; decide) (congrArg (fun n => some (Value.int (nI n))) hcd) hP hS (Nat.le_of_ble_eq_true rfl) (Nat.le_of_ble_eq_true rfl)
    have hE := List.mem_singleton.mp hE
    obtain ⟨hE1, hcd⟩ := Prod.mk.inj hE
    subst hE1
    refine vx_catch (own := RL) (name := k_IA) (E := k_IA) hown [⟨0, 12, 15, 13⟩] ⟨0, 12, 19, 15⟩ [] htab (List.forall_mem_cons.mpr ⟨Or.inr ⟨by decide, k_IO, hts (.classLink RL 13 k_IO) (by decide +kernel), hnc (k_IA, k_IO) (by decide)⟩, (fun z hz => absurd hz List.not_mem_nil)⟩) (by decide) (by decide) (hts (.classLink RL 15 k_IA) (by decide +kernel)) (va_Nw.use (k_nw_ot _ (List.mem_of_getElem? (i := 4) rfl)) (hex.2.2.1 _ (List.mem_of_getElem? (i := 4) rfl))) hce hcv hcl ?_
    refine lv_astore (lv' := [(5, .ref q9), (0, .ref (q 0)), (1, .int p0), (2, .int t), (3, .int m0), (4, .ref o)]) hx hb dL_walk_19 hl (by decide) rfl (fun ls hl => ?_)
    refine lv_iconst (v := nI 2) hx hb dL_walk_21 (by decide) ?_
    exact k_wiret none hx hb hr hlocks dL_walk_22 (show cd2 (inB p0 8) (txB t m0) ≠ 0 by rw [hcd]; decide) (congrArg (fun n => some (Value.int (nI n))) hcd) hP hS (Nat.le_of_ble_eq_true rfl) (Nat.le_of_ble_eq_true rfl)
  · intro u H locs hu hP hD hS
    have hP : va_P D vwCl ((wx cI q sh sp ld nm tx ds ct co u.2.1 u.2.2) ++ [wo o cJ f]) H := hP.sub [1, 2, 3, 4, 5, 6, 7, 8, 9, 0] rfl
    have hD : va_D _ ((wx cI q sh sp ld nm tx ds ct co u.2.1 u.2.2) ++ [wo o cJ f]) := hD.sub [1, 2, 3, 4, 5, 6, 7, 8, 9, 0] (by decide) rfl
    refine lv_i2l (v := (sa (toldC sh ct ds K u.1.2.2 u.1.2.1) Ld (arrC NK NT u.1.2.2 u.1.2.1) 31 0 u.1.1 tk0).toInt64) hx hb dL_walk_10 rfl ?_
    refine va_last hx hb hK hP hD hS 9 1 rfl rfl (vp_in_nI (by decide) (by decide)) dL_walk_11 (fun H locs hP hD hS => ?_)
    have hP : va_P D vwCl ((wx cI q sh sp ld nm tx ds ct co u.2.1 u.2.2) ++ [wo o cJ (vp_updL f 0 ((sa (toldC sh ct ds K u.1.2.2 u.1.2.1) Ld (arrC NK NT u.1.2.2 u.1.2.1) 31 0 u.1.1 tk0).toInt64))]) H := hP
    refine lv_goto (tgt := 23) hx hb dL_walk_12 (by decide) ?_
    refine lv_iconst (v := nI 0) hx hb dL_walk_23 (by decide) ?_
    exact k_wiret (some u) hx hb hr hlocks dL_walk_24 hu rfl hP hS (Nat.le_of_ble_eq_true rfl) (Nat.le_of_ble_eq_true rfl)
set_option maxHeartbeats 4000000 in
set_option maxRecDepth 100000 in
theorem c_L_walkBySteps (l : Launch) (hst : l.stackTraces = false) (D : va_G) (cI : ClassId) (q : Nat → Nat) (sh sp ld nm tx ds ct : Nat → Int32) (co : Int64) (kg : Int32) (ks : Nat → Int32) (p0 t m0 : Int32) (T K : Nat → Nat) (hG : ∀ w, w < 32 → T w < 32768 ∧ K w ≤ 5 ∧ tx w = nI (32768 * K w + T w) ∧ ∀ j, j < K w → S25 (ct (w * 5 + j))) (Ld : Nat → Nat) (hLd : ∀ w, w < 32 → Ld w ≤ 8 ∧ ld w = ix (Ld w)) (hsh : ∀ g, g < 8 → S25 (sh g)) (NT NK : Nat → Nat) (hN : ∀ p, p < 8 → NT p < 32768 ∧ NK p ≤ 5 ∧ nm p = nI (32768 * NK p + NT p)) (o : Nat) (cJ : ClassId) (f : Nat → Int64) (hDt : va_D (fun _ => True) ((wx cI q sh sp ld nm tx ds ct co kg ks) ++ [wo o cJ f])) : Met l yL_walkBySteps wsL_walkBySteps ({ frames := 8, cells := 8, slots := 48, locals := 190 } : Room) (k_P [.ref (q 0), .int p0, .int t, .int m0, .ref o] (fun U => k_B D ((wx cI q sh sp ld nm tx ds ct co kg ks) ++ [wo o cJ f]) [(cI, .int), (cJ, .long)] U ∧ k_ex U ∧ k_nc U)) (k_WQ D ((wx cI q sh sp ld nm tx ds ct co kg ks) ++ [wo o cJ f]) (fun u : Option (Nat × Nat × Nat) => u.elim (cd2 (inB p0 8) (txB t m0) ≠ 0) (fun u => cd2 (inB p0 8) (txB t m0) = 0 ∧ u.1 < 8 ∧ p0 = nI u.1 ∧ 1 ≤ u.2.2 ∧ u.2.2 ≤ 5 ∧ u.2.1 < 8 ^ u.2.2 ∧ t = nI u.2.1 ∧ m0 = nI u.2.2)) (fun u => u.elim (wx cI q sh sp ld nm tx ds ct co kg ks) (fun u => wx cI q sh sp ld nm tx ds ct co kg ks) ++ [wo o cJ (u.elim f (fun u => vp_updL f 0 ((sa (toldC sh ct ds K u.2.2 u.2.1) Ld (arrC NK NT u.2.2 u.2.1) 31 0 u.1 tk0).toInt64)))]) (fun u => some (.int (nI (u.elim (cd2 (inB p0 8) (txB t m0)) (fun _ => 0)))))) 8 48 (k_A ((wx cI q sh sp ld nm tx ds ct co kg ks) ++ [wo o cJ f])) := by
  refine k_headT (cc := cL_walkBySteps) (maxL := 6) (ret := some .int) (hh := [(0, 12, 15, 13), (0, 12, 19, 15)]) [(0, .ref (q 0)), (1, .int p0), (2, .int t), (3, .int m0), (4, .ref o)] (by decide) rfl (Nat.le_of_ble_eq_true rfl) rfl ?_
  intro p e s m below meth c ls hx hb hr hml hown hts hlocks htab hB hl
  have hown : s.vm.findClass RL = some m.cls := hown
  obtain ⟨⟨hP, hK⟩, hex, hnc⟩ := hB
  have hD := k_A_D hDt
  have hS : va_S (k_A ((wx cI q sh sp ld nm tx ds ct co kg ks) ++ [wo o cJ f])) s.heap s.heap [] := va_S.rf
  have hP : va_P D vwCl ((wx cI q sh sp ld nm tx ds ct co kg ks) ++ [wo o cJ f]) s.heap := hP
  refine lv_aload hx hb dL_walkBySteps_0 (lv_at hl 4 rfl) ?_
  refine lv_iconst (v := nI 0) hx hb dL_walkBySteps_2 (by decide) ?_
  refine lv_aload_n hx hb dL_walkBySteps_3 rfl (lv_at hl 0 rfl) ?_
  refine lv_iload_n hx hb dL_walkBySteps_4 rfl (lv_at hl 1 rfl) ?_
  refine lv_iload_n hx hb dL_walkBySteps_5 rfl (lv_at hl 2 rfl) ?_
  refine lv_iload_n hx hb dL_walkBySteps_6 rfl (lv_at hl 3 rfl) ?_
  refine k_callXW (wr := [wo o cJ f]) (As := [.int p0, .int t, .int m0]) (rest := [.int (nI 0), .ref o]) ⟨hx, hb, hml, hown, hts⟩ (c_X0_walkBySteps l hst D cI q sh sp ld nm tx ds ct co kg ks p0 t m0 T K hG Ld hLd hsh NT NK hN (hDt.sub [0, 1, 2, 3, 4, 5, 6, 7, 8] (by decide) rfl)) (cwV 3 hts gL_walkBySteps_X0_walkBySteps rfl rfl rfl (by decide +kernel) ⟨Nat.le_of_ble_eq_true rfl, Nat.le_of_ble_eq_true rfl⟩) (k_ex_and k_B_bl) (fun U hU hW => ⟨k_B_of (hP.sub [0, 1, 2, 3, 4, 5, 6, 7, 8] rfl) (hK.sub [0] rfl) U hU hW, k_ex_of hex U hU hW⟩) (va_recv hK hP (ci := 0) (q0 := 0) rfl rfl) rfl hl.1 rfl (Nat.le_of_ble_eq_true rfl) dL_walkBySteps_7 ⟨Nat.le_of_ble_eq_true rfl, Nat.le_of_ble_eq_true rfl⟩ hP hD hS [9] [0, 1, 2, 3, 4, 5, 6, 7, 8] rfl rfl (fun _ => rfl) ?_ ?_
  · intro E ce q9 H locs hE hP hS hce hcv hcl
    rcases List.mem_cons.mp hE with hE | hE
    · obtain ⟨hE1, hcd⟩ := Prod.mk.inj hE
      subst hE1
      refine vx_catch (own := RL) (name := k_IO) (E := k_IO) hown [] ⟨0, 12, 15, 13⟩ [⟨0, 12, 19, 15⟩] htab (fun z hz => absurd hz List.not_mem_nil) (by decide) (by decide) (hts (.classLink RL 13 k_IO) (by decide +kernel)) (va_Nw.use (k_nw_ot _ (List.mem_of_getElem? (i := 3) rfl)) (hex.2.2.1 _ (List.mem_of_getElem? (i := 3) rfl))) hce hcv hcl ?_
      refine lv_astore (lv' := [(5, .ref q9), (0, .ref (q 0)), (1, .int p0), (2, .int t), (3, .int m0), (4, .ref o)]) hx hb dL_walkBySteps_15 hl (by decide) rfl (fun ls hl => ?_)
      refine lv_iconst (v := nI 1) hx hb dL_walkBySteps_17 (by decide) ?_
      exact k_wiret none hx hb hr hlocks dL_walkBySteps_18 (show cd2 (inB p0 8) (txB t m0) ≠ 0 by rw [hcd]; decide) (congrArg (fun n => some (Value.int (nI n))) hcd) hP hS (Nat.le_of_ble_eq_true rfl) (Nat.le_of_ble_eq_true rfl)
    have hE := List.mem_singleton.mp hE
    obtain ⟨hE1, hcd⟩ := Prod.mk.inj hE
    subst hE1
    refine vx_catch (own := RL) (name := k_IA) (E := k_IA) hown [⟨0, 12, 15, 13⟩] ⟨0, 12, 19, 15⟩ [] htab (List.forall_mem_cons.mpr ⟨Or.inr ⟨by decide, k_IO, hts (.classLink RL 13 k_IO) (by decide +kernel), hnc (k_IA, k_IO) (by decide)⟩, (fun z hz => absurd hz List.not_mem_nil)⟩) (by decide) (by decide) (hts (.classLink RL 15 k_IA) (by decide +kernel)) (va_Nw.use (k_nw_ot _ (List.mem_of_getElem? (i := 4) rfl)) (hex.2.2.1 _ (List.mem_of_getElem? (i := 4) rfl))) hce hcv hcl ?_
    refine lv_astore (lv' := [(5, .ref q9), (0, .ref (q 0)), (1, .int p0), (2, .int t), (3, .int m0), (4, .ref o)]) hx hb dL_walkBySteps_19 hl (by decide) rfl (fun ls hl => ?_)
    refine lv_iconst (v := nI 2) hx hb dL_walkBySteps_21 (by decide) ?_
    exact k_wiret none hx hb hr hlocks dL_walkBySteps_22 (show cd2 (inB p0 8) (txB t m0) ≠ 0 by rw [hcd]; decide) (congrArg (fun n => some (Value.int (nI n))) hcd) hP hS (Nat.le_of_ble_eq_true rfl) (Nat.le_of_ble_eq_true rfl)
  · intro u H locs hu hP hD hS
    have hP : va_P D vwCl ((wx cI q sh sp ld nm tx ds ct co kg ks) ++ [wo o cJ f]) H := hP.sub [1, 2, 3, 4, 5, 6, 7, 8, 9, 0] rfl
    have hD : va_D _ ((wx cI q sh sp ld nm tx ds ct co kg ks) ++ [wo o cJ f]) := hD.sub [1, 2, 3, 4, 5, 6, 7, 8, 9, 0] (by decide) rfl
    refine lv_i2l (v := (sa (toldC sh ct ds K u.2.2 u.2.1) Ld (arrC NK NT u.2.2 u.2.1) 31 0 u.1 tk0).toInt64) hx hb dL_walkBySteps_10 rfl ?_
    refine va_last hx hb hK hP hD hS 9 1 rfl rfl (vp_in_nI (by decide) (by decide)) dL_walkBySteps_11 (fun H locs hP hD hS => ?_)
    have hP : va_P D vwCl ((wx cI q sh sp ld nm tx ds ct co kg ks) ++ [wo o cJ (vp_updL f 0 ((sa (toldC sh ct ds K u.2.2 u.2.1) Ld (arrC NK NT u.2.2 u.2.1) 31 0 u.1 tk0).toInt64))]) H := hP
    refine lv_goto (tgt := 23) hx hb dL_walkBySteps_12 (by decide) ?_
    refine lv_iconst (v := nI 0) hx hb dL_walkBySteps_23 (by decide) ?_
    exact k_wiret (some u) hx hb hr hlocks dL_walkBySteps_24 hu rfl hP hS (Nat.le_of_ble_eq_true rfl) (Nat.le_of_ble_eq_true rfl)
set_option maxHeartbeats 4000000 in
set_option maxRecDepth 100000 in
theorem c_L_placeBehind (l : Launch) (hst : l.stackTraces = false) (D : va_G) (cI : ClassId) (q : Nat → Nat) (sh sp ld nm tx ds ct : Nat → Int32) (co : Int64) (kg : Int32) (ks : Nat → Int32) (p0 t m0 s0 : Int32) (T K : Nat → Nat) (hG : ∀ w, w < 32 → T w < 32768 ∧ K w ≤ 5 ∧ tx w = nI (32768 * K w + T w) ∧ ∀ j, j < K w → S25 (ct (w * 5 + j))) (Ld : Nat → Nat) (hLd : ∀ w, w < 32 → Ld w ≤ 8 ∧ ld w = ix (Ld w)) (hsh : ∀ g, g < 8 → S25 (sh g)) (NT NK : Nat → Nat) (hN : ∀ p, p < 8 → NT p < 32768 ∧ NK p ≤ 5 ∧ nm p = nI (32768 * NK p + NT p)) (o : Nat) (cJ : ClassId) (f : Nat → Int64) (hDt : va_D (fun _ => True) ((wx cI q sh sp ld nm tx ds ct co kg ks) ++ [wo o cJ f])) : Met l yL_placeBehind wsL_placeBehind ({ frames := 8, cells := 8, slots := 48, locals := 192 } : Room) (k_P [.ref (q 0), .int p0, .int t, .int m0, .int s0, .ref o] (fun U => k_B D ((wx cI q sh sp ld nm tx ds ct co kg ks) ++ [wo o cJ f]) [(cI, .int), (cJ, .long)] U ∧ k_ex U ∧ k_nc U)) (k_WQ D ((wx cI q sh sp ld nm tx ds ct co kg ks) ++ [wo o cJ f]) (fun u : Option (Nat × Nat × Nat × Nat) => u.elim (cd2 (inB p0 8) (txB t m0 && inB s0 31) ≠ 0) (fun u => cd2 (inB p0 8) (txB t m0 && inB s0 31) = 0 ∧ u.1 < 8 ∧ p0 = nI u.1 ∧ 1 ≤ u.2.2.1 ∧ u.2.2.1 ≤ 5 ∧ u.2.1 < 8 ^ u.2.2.1 ∧ t = nI u.2.1 ∧ m0 = nI u.2.2.1 ∧ u.2.2.2 < 31 ∧ s0 = nI u.2.2.2)) (fun u => u.elim (wx cI q sh sp ld nm tx ds ct co kg ks) (fun u => wx cI q sh sp ld nm tx ds ct co kg ks) ++ [wo o cJ (u.elim f (fun u => vp_updL f 0 ((nI (pl (toldC sh ct ds K u.2.2.1 u.2.1) Ld (arrC NK NT u.2.2.1 u.2.1) u.2.2.2 u.1 tk0)).toInt64)))]) (fun u => some (.int (nI (u.elim (cd2 (inB p0 8) (txB t m0 && inB s0 31)) (fun _ => 0)))))) 8 48 (k_A ((wx cI q sh sp ld nm tx ds ct co kg ks) ++ [wo o cJ f])) := by
  refine k_headT (cc := cL_placeBehind) (maxL := 7) (ret := some .int) (hh := [(0, 14, 17, 13), (0, 14, 21, 15)]) [(0, .ref (q 0)), (1, .int p0), (2, .int t), (3, .int m0), (4, .int s0), (5, .ref o)] (by decide) rfl (Nat.le_of_ble_eq_true rfl) rfl ?_
  intro p e s m below meth c ls hx hb hr hml hown hts hlocks htab hB hl
  have hown : s.vm.findClass RL = some m.cls := hown
  obtain ⟨⟨hP, hK⟩, hex, hnc⟩ := hB
  have hD := k_A_D hDt
  have hS : va_S (k_A ((wx cI q sh sp ld nm tx ds ct co kg ks) ++ [wo o cJ f])) s.heap s.heap [] := va_S.rf
  have hP : va_P D vwCl ((wx cI q sh sp ld nm tx ds ct co kg ks) ++ [wo o cJ f]) s.heap := hP
  refine lv_aload hx hb dL_placeBehind_0 (lv_at hl 5 rfl) ?_
  refine lv_iconst (v := nI 0) hx hb dL_placeBehind_2 (by decide) ?_
  refine lv_aload_n hx hb dL_placeBehind_3 rfl (lv_at hl 0 rfl) ?_
  refine lv_iload_n hx hb dL_placeBehind_4 rfl (lv_at hl 1 rfl) ?_
  refine lv_iload_n hx hb dL_placeBehind_5 rfl (lv_at hl 2 rfl) ?_
  refine lv_iload_n hx hb dL_placeBehind_6 rfl (lv_at hl 3 rfl) ?_
  refine lv_iload hx hb dL_placeBehind_7 (lv_at hl 4 rfl) ?_
  refine k_callXW (wr := [wo o cJ f]) (As := [.int p0, .int t, .int m0, .int s0]) (rest := [.int (nI 0), .ref o]) ⟨hx, hb, hml, hown, hts⟩ (c_X0_placeBehind l hst D cI q sh sp ld nm tx ds ct co kg ks p0 t m0 s0 T K hG Ld hLd hsh NT NK hN (hDt.sub [0, 1, 2, 3, 4, 5, 6, 7, 8] (by decide) rfl)) (cwV 4 hts gL_placeBehind_X0_placeBehind rfl rfl rfl (by decide +kernel) ⟨Nat.le_of_ble_eq_true rfl, Nat.le_of_ble_eq_true rfl⟩) (k_ex_and k_B_bl) (fun U hU hW => ⟨k_B_of (hP.sub [0, 1, 2, 3, 4, 5, 6, 7, 8] rfl) (hK.sub [0] rfl) U hU hW, k_ex_of hex U hU hW⟩) (va_recv hK hP (ci := 0) (q0 := 0) rfl rfl) rfl hl.1 rfl (Nat.le_of_ble_eq_true rfl) dL_placeBehind_9 ⟨Nat.le_of_ble_eq_true rfl, Nat.le_of_ble_eq_true rfl⟩ hP hD hS [9] [0, 1, 2, 3, 4, 5, 6, 7, 8] rfl rfl (fun _ => rfl) ?_ ?_
  · intro E ce q9 H locs hE hP hS hce hcv hcl
    rcases List.mem_cons.mp hE with hE | hE
    · obtain ⟨hE1, hcd⟩ := Prod.mk.inj hE
      subst hE1
      refine vx_catch (own := RL) (name := k_IO) (E := k_IO) hown [] ⟨0, 14, 17, 13⟩ [⟨0, 14, 21, 15⟩] htab (fun z hz => absurd hz List.not_mem_nil) (by decide) (by decide) (hts (.classLink RL 13 k_IO) (by decide +kernel)) (va_Nw.use (k_nw_ot _ (List.mem_of_getElem? (i := 3) rfl)) (hex.2.2.1 _ (List.mem_of_getElem? (i := 3) rfl))) hce hcv hcl ?_
      refine lv_astore (lv' := [(6, .ref q9), (0, .ref (q 0)), (1, .int p0), (2, .int t), (3, .int m0), (4, .int s0), (5, .ref o)]) hx hb dL_placeBehind_17 hl (by decide) rfl (fun ls hl => ?_)
      refine lv_iconst (v := nI 1) hx hb dL_placeBehind_19 (by decide) ?_
      exact k_wiret none hx hb hr hlocks dL_placeBehind_20 (show cd2 (inB p0 8) (txB t m0 && inB s0 31) ≠ 0 by rw [hcd]; decide) (congrArg (fun n => some (Value.int (nI n))) hcd) hP hS (Nat.le_of_ble_eq_true rfl) (Nat.le_of_ble_eq_true rfl)
    have hE := List.mem_singleton.mp hE
    obtain ⟨hE1, hcd⟩ := Prod.mk.inj hE
    subst hE1
    refine vx_catch (own := RL) (name := k_IA) (E := k_IA) hown [⟨0, 14, 17, 13⟩] ⟨0, 14, 21, 15⟩ [] htab (List.forall_mem_cons.mpr ⟨Or.inr ⟨by decide, k_IO, hts (.classLink RL 13 k_IO) (by decide +kernel), hnc (k_IA, k_IO) (by decide)⟩, (fun z hz => absurd hz List.not_mem_nil)⟩) (by decide) (by decide) (hts (.classLink RL 15 k_IA) (by decide +kernel)) (va_Nw.use (k_nw_ot _ (List.mem_of_getElem? (i := 4) rfl)) (hex.2.2.1 _ (List.mem_of_getElem? (i := 4) rfl))) hce hcv hcl ?_
    refine lv_astore (lv' := [(6, .ref q9), (0, .ref (q 0)), (1, .int p0), (2, .int t), (3, .int m0), (4, .int s0), (5, .ref o)]) hx hb dL_placeBehind_21 hl (by decide) rfl (fun ls hl => ?_)
    refine lv_iconst (v := nI 2) hx hb dL_placeBehind_23 (by decide) ?_
    exact k_wiret none hx hb hr hlocks dL_placeBehind_24 (show cd2 (inB p0 8) (txB t m0 && inB s0 31) ≠ 0 by rw [hcd]; decide) (congrArg (fun n => some (Value.int (nI n))) hcd) hP hS (Nat.le_of_ble_eq_true rfl) (Nat.le_of_ble_eq_true rfl)
  · intro u H locs hu hP hD hS
    have hP : va_P D vwCl ((wx cI q sh sp ld nm tx ds ct co kg ks) ++ [wo o cJ f]) H := hP.sub [1, 2, 3, 4, 5, 6, 7, 8, 9, 0] rfl
    have hD : va_D _ ((wx cI q sh sp ld nm tx ds ct co kg ks) ++ [wo o cJ f]) := hD.sub [1, 2, 3, 4, 5, 6, 7, 8, 9, 0] (by decide) rfl
    refine lv_i2l (v := (nI (pl (toldC sh ct ds K u.2.2.1 u.2.1) Ld (arrC NK NT u.2.2.1 u.2.1) u.2.2.2 u.1 tk0)).toInt64) hx hb dL_placeBehind_12 rfl ?_
    refine va_last hx hb hK hP hD hS 9 1 rfl rfl (vp_in_nI (by decide) (by decide)) dL_placeBehind_13 (fun H locs hP hD hS => ?_)
    have hP : va_P D vwCl ((wx cI q sh sp ld nm tx ds ct co kg ks) ++ [wo o cJ (vp_updL f 0 ((nI (pl (toldC sh ct ds K u.2.2.1 u.2.1) Ld (arrC NK NT u.2.2.1 u.2.1) u.2.2.2 u.1 tk0)).toInt64))]) H := hP
    refine lv_goto (tgt := 25) hx hb dL_placeBehind_14 (by decide) ?_
    refine lv_iconst (v := nI 0) hx hb dL_placeBehind_25 (by decide) ?_
    exact k_wiret (some u) hx hb hr hlocks dL_placeBehind_26 hu rfl hP hS (Nat.le_of_ble_eq_true rfl) (Nat.le_of_ble_eq_true rfl)
