/-! own rows: heads, calls, ends -/
section HEADS
variable {l : Launch} {y : MethodName} {ws ws' : List Cond} {rm : Room} {As : List Value} {B : State → Prop} {cc : ByteArray} {maxL mc ms : Nat} {ret : Option FieldType} {Qc : Array Value → State → Outcome → State → Prop} {XC : String → State → State → Prop} {free : Addr → Prop}
theorem k_head (lv : List (Nat × Value)) (hy : plainName y.cls = true) (hw : ws = Cond.code y cc maxL ret :: ws') (hlen : (lg_sl As).length ≤ maxL) (hlv : lv_args 0 As = lv)
    (body : ∀ (p : Program) (e : Env) (s : State) (m : MethodId) (below : List Frame) (meth : Method) (c : Code) (ls : Array Slot), p.tables.exec = Jvm.exec → c.code = cc → meth.sig.returnType = ret → c.maxLocals = maxL → s.vm.findClass y.cls = some m.cls → (∀ w ∈ ws, w.before As.toArray s = true) → meth.locks = false → meth.name = y.name → B s → lv_has ls maxL lv →
      W p l e rm s m As.toArray below meth c s.heap [] 0 0 (MQ below Qc As.toArray s mc ms free) (F0 m 0 ls [])) : Met l y ws rm (k_P As B) Qc mc ms free := by
  refine Met.ofW (cc := cc) (maxL := maxL) (ret := ret) hy hw ?_
  intro p e s m args below meth c s₁ Bd hml hv
  obtain ⟨rfl, hB⟩ := hv
  rw [lg_entry_eq]
  exact body p e s m below meth c _ Bd.exec Bd.bytes Bd.returns hml (findClass_of_methodNamed Bd.named) (atoms_spec (ws := ws) Bd.pre) Bd.notSynchronized (name_of_methodNamed Bd.named Bd.method).1 hB (hlv ▸ lv_entry As hlen)
theorem k_headX (lv : List (Nat × Value)) (hy : plainName y.cls = true) (hw : ws = Cond.code y cc maxL ret :: ws') (hlen : (lg_sl As).length ≤ maxL) (hlv : lv_args 0 As = lv)
    (body : ∀ (p : Program) (e : Env) (s : State) (m : MethodId) (below : List Frame) (meth : Method) (c : Code) (ls : Array Slot), p.tables.exec = Jvm.exec → c.code = cc → meth.sig.returnType = ret → c.maxLocals = maxL → s.vm.findClass y.cls = some m.cls → (∀ w ∈ ws, w.before As.toArray s = true) → meth.locks = false → (∀ x ∈ c.exceptionTable.toList, False) → B s → lv_has ls maxL lv →
      W p l e rm s m As.toArray below meth c s.heap [] 0 0 (vx_MQ below Qc XC As.toArray s mc ms free) (F0 m 0 ls [])) : vx_Met l y ws rm (k_P As B) Qc XC mc ms free := by
  refine vx_ofW (cc := cc) (maxL := maxL) (ret := ret) hy hw ?_
  intro p e s m args below meth c s₁ Bd hml ht hv
  obtain ⟨rfl, hB⟩ := hv
  rw [lg_entry_eq]
  exact body p e s m below meth c _ Bd.exec Bd.bytes Bd.returns hml (findClass_of_methodNamed Bd.named) (atoms_spec (ws := ws) Bd.pre) Bd.notSynchronized ht hB (hlv ▸ lv_entry As hlen)
end HEADS
section LIBC
variable {p : Program} {l : Launch} {e : Env} {R : Room} {s : State} {m : MethodId} {args : Array Value} {below : List Frame} {meth : Method} {c : Code} {H : Heap} {locs : List Loc} {cells slots : Nat} {Q : State → Prop}
variable {y : MethodName} {bytes cc : ByteArray} {maxL nL n index pc : Nat} {ret : Option FieldType} {ws : List Cond} {rm : Room} {Ts : List Cond} {own C : String} {b : Addr} {As rest st0 : List Value} {ls : Array Slot} {B : State → Prop} {v : Option Value} {mc ms : Nat}
theorem k_go {a : Array Value} (hr : va_Run p l e R s m args below meth c H locs cells slots 0 0 (F0 m pc ls st0) rest (k_Q v a) k_N)
    (kk : W p l e R s m args below meth c H locs cells slots Q (F0 m (pc + 3) ls (v.toList ++ rest))) : W p l e R s m args below meth c H locs cells slots Q (F0 m pc ls st0) := by
  intro T hT X
  obtain ⟨v', st₀, t, T', L, h0, X', hL, e1, e2, ⟨hv, hh⟩, st⟩ := hr T hT X
  cases hv
  have hL0 : L = [] := List.eq_nil_iff_forall_not_mem.mpr (fun q hq => hL q hq)
  subst hL0
  rw [List.append_nil] at X'
  obtain ⟨t2, a1, b1⟩ := kk T' (by rw [e1, hh, h0]) X'
  exact ⟨t2, st t2 a1, b1⟩
theorem k_callS (S : CallFix p m c cc nL s args Ts own) (hM : k_M l y ws rm As B v) (cw : CallB R s args own index y bytes maxL ret ws rm 0 0 n ∧ (Cond.static y).before args s = true)
    (hbl : k_bl B) (hB : ∀ U : State, U.heap = H → s.WarmedH U.vm → B U) (hn : As.length = n) (hsize : ls.size = nL) (hst : st0 = As.reverse ++ rest) (hW : (rest.map fun v => v.category).sum ≤ 8) (hdg : decode cc pc = .ok (.invokestatic index, 3)) (hf : cells ≤ R.cells ∧ slots ≤ R.slots)
    (kk : W p l e R s m args below meth c H locs cells slots Q (F0 m (pc + 3) ls (v.toList ++ rest))) : W p l e R s m args below meth c H locs cells slots Q (F0 m pc ls st0) := by
  subst hst
  exact k_go (va_runS (H := H) (locs := locs) (cells := cells) (slots := slots) (g := F0 m pc ls (As.reverse ++ rest)) (rest := rest) S hM cw ⟨k_P_bl hbl, fun U hU hW => ⟨rfl, hB U hU hW⟩⟩ rfl hn hsize rfl (lv_room hW) hdg hf) kk
theorem k_callV (S : CallFix p m c cc nL s args Ts own) (hM : k_M l y ws rm (.ref b :: As) B v) (cw : CallW R s args own C index y bytes maxL ret ws rm 0 0 n)
    (hbl : k_bl B) (hB : ∀ U : State, U.heap = H → s.WarmedH U.vm → B U) (hrec : ∃ cellB : Cell, H[b]? = some cellB ∧ cellB.vm.isStatics = false ∧ s.vm.findClass C = some cellB.cls) (hn : As.length = n) (hsize : ls.size = nL) (hst : st0 = As.reverse ++ .ref b :: rest) (hW : (rest.map fun v => v.category).sum ≤ 8) (hdg : decode cc pc = .ok (.invokevirtual index, 3)) (hf : cells ≤ R.cells ∧ slots ≤ R.slots)
    (kk : W p l e R s m args below meth c H locs cells slots Q (F0 m (pc + 3) ls (v.toList ++ rest))) : W p l e R s m args below meth c H locs cells slots Q (F0 m pc ls st0) := by
  subst hst
  exact k_go (va_runV (H := H) (locs := locs) (cells := cells) (slots := slots) (g := F0 m pc ls (As.reverse ++ .ref b :: rest)) (rest := rest) S hM cw ⟨k_P_bl hbl, hrec, fun U hU hW => ⟨rfl, hB U hU hW⟩⟩ rfl hn hsize rfl (lv_room hW) hdg hf) kk
theorem k_callSi {x : Int32} (S : CallFix p m c cc nL s args Ts own) (hM : k_M l y ws rm As B (some (.int x))) (cw : CallB R s args own index y bytes maxL ret ws rm 0 0 n ∧ (Cond.static y).before args s = true)
    (hbl : k_bl B) (hB : ∀ U : State, U.heap = H → s.WarmedH U.vm → B U) (hn : As.length = n) (hsize : ls.size = nL) (hst : st0 = As.reverse ++ rest) (hW : (rest.map fun v => v.category).sum ≤ 8) (hdg : decode cc pc = .ok (.invokestatic index, 3)) (hf : cells ≤ R.cells ∧ slots ≤ R.slots)
    (kk : W p l e R s m args below meth c H locs cells slots Q (F0 m (pc + 3) ls (.int x :: rest))) : W p l e R s m args below meth c H locs cells slots Q (F0 m pc ls st0) := k_callS S hM cw hbl hB hn hsize hst hW hdg hf kk
theorem k_callVi {x : Int32} (S : CallFix p m c cc nL s args Ts own) (hM : k_M l y ws rm (.ref b :: As) B (some (.int x))) (cw : CallW R s args own C index y bytes maxL ret ws rm 0 0 n)
    (hbl : k_bl B) (hB : ∀ U : State, U.heap = H → s.WarmedH U.vm → B U) (hrec : ∃ cellB : Cell, H[b]? = some cellB ∧ cellB.vm.isStatics = false ∧ s.vm.findClass C = some cellB.cls) (hn : As.length = n) (hsize : ls.size = nL) (hst : st0 = As.reverse ++ .ref b :: rest) (hW : (rest.map fun v => v.category).sum ≤ 8) (hdg : decode cc pc = .ok (.invokevirtual index, 3)) (hf : cells ≤ R.cells ∧ slots ≤ R.slots)
    (kk : W p l e R s m args below meth c H locs cells slots Q (F0 m (pc + 3) ls (.int x :: rest))) : W p l e R s m args below meth c H locs cells slots Q (F0 m pc ls st0) := k_callV S hM cw hbl hB hrec hn hsize hst hW hdg hf kk
-- a callee that writes its world w, which lies at places of the caller's ws
theorem k_goW {a : Array Value} {S : Type} {D : va_G} {w : va_W} {px : S → Prop} {w' : S → va_W} {ans : S → Option Value} (hr : va_Run p l e R s m args below meth c H locs cells slots mc ms (F0 m pc ls st0) rest (k_WQ D w px w' ans a) (k_A w))
    {A : Nat → Prop} {H0 : Heap} {wc wr : va_W} (hP : va_P D vwCl wc H) (hD : va_D A wc) (hS : va_S A H0 H locs) (isR isC : List Nat) (hmap : (isR ++ isC).map (fun i => wc[i]?) = (wr ++ w).map some) (hnd : va_nd (isR ++ isC) = true) (hm : ∀ u, (w' u).map Prod.fst = w.map Prod.fst)
    (kk : ∀ (u : S) (H1 : Heap) (locs1 : List Loc), px u → va_P D vwCl (wr ++ w' u) H1 → va_D A (wr ++ w' u) → va_S A H0 H1 locs1 → H.size ≤ H1.size → (∀ q : Nat, q < H.size → ¬ k_A w q → H1[q]? = H[q]?) → W p l e R s m args below meth c H1 locs1 (cells + mc) (slots + ms) Q (F0 m (pc + 3) ls ((ans u).toList ++ rest))) : W p l e R s m args below meth c H locs cells slots Q (F0 m pc ls st0) := by
  have hDrw : va_D A (wr ++ w) := hD.sub (isR ++ isC) hnd hmap
  have hPrw : va_P D vwCl (wr ++ w) H := by
    intro k q hk
    have h1 : ((isR ++ isC).map (fun i => wc[i]?))[k]? = some (some q) := by rw [hmap, List.getElem?_map, hk]; rfl
    rw [List.getElem?_map] at h1
    cases hi : (isR ++ isC)[k]? with
    | none => rw [hi] at h1; cases h1
    | some i => rw [hi] at h1; exact hP i q (Option.some.inj h1)
  have hAA : ∀ q, k_A w q → A q := by
    rintro q ⟨k, e, hk⟩
    have h1 : (wr ++ w)[wr.length + k]? = some (q, e) := by rw [List.getElem?_append_right (Nat.le_add_right _ _), Nat.add_sub_cancel_left]; exact hk
    exact hDrw.2 _ _ h1
  intro T hT X
  obtain ⟨v', st₀, t, T', L, h0, X', hL, e1, e2, ⟨u, hp, hv, hP1, hF⟩, st⟩ := hr T hT X
  cases hv
  obtain ⟨k1, k2, k3⟩ := vx_keep h0 e1 hS (fun q _ h => hAA q h) hAA hL hF
  have hPr : va_P D vwCl wr T'.heap := by
    intro k q hk
    have h1 : (wr ++ w)[k]? = some q := by
      have hlt : k < wr.length := (List.getElem?_eq_some_iff.mp hk).1
      rw [List.getElem?_append_left hlt]; exact hk
    have h2 := hPrw k q h1
    refine h2.kept (k2 q.1 h2.lt ?_)
    rintro ⟨j, e, hj⟩
    have h3 : (wr ++ w)[wr.length + j]? = some (q.1, e) := by rw [List.getElem?_append_right (Nat.le_add_right _ _), Nat.add_sub_cancel_left]; exact hj
    have h4 := hDrw.1 k (wr.length + j) q (q.1, e) h1 h3 rfl
    have hlt : k < wr.length := (List.getElem?_eq_some_iff.mp hk).1
    omega
  have hP2 : va_P D vwCl (wr ++ w' u) T'.heap := va_P.app hPr (by rw [e1]; exact hP1)
  have hD2 : va_D A (wr ++ w' u) := k_D_map (w := wr ++ w) (by rw [List.map_append, List.map_append, hm u]) hDrw
  obtain ⟨t2, a1, b1⟩ := kk u T'.heap (locs ++ L) hp hP2 hD2 k3 k1 k2 T' rfl X'
  exact ⟨t2, st t2 a1, b1⟩
theorem k_callVW {S : Type} {D : va_G} {w : va_W} {px : S → Prop} {w' : S → va_W} {ans : S → Option Value} (F : CallFix p m c cc nL s args Ts own) (hM : Met l y ws rm (k_P (.ref b :: As) B) (k_WQ D w px w' ans) mc ms (k_A w)) (cw : CallW R s args own C index y bytes maxL ret ws rm mc ms n)
    (hbl : k_bl B) (hB : ∀ U : State, U.heap = H → s.WarmedH U.vm → B U) (hrec : ∃ cellB : Cell, H[b]? = some cellB ∧ cellB.vm.isStatics = false ∧ s.vm.findClass C = some cellB.cls) (hn : As.length = n) (hsize : ls.size = nL) (hst : st0 = As.reverse ++ .ref b :: rest) (hW : (rest.map fun v => v.category).sum ≤ 8) (hdg : decode cc pc = .ok (.invokevirtual index, 3)) (hf : cells + mc ≤ R.cells ∧ slots + ms ≤ R.slots)
    {A : Nat → Prop} {H0 : Heap} {wc wr : va_W} (hP : va_P D vwCl wc H) (hD : va_D A wc) (hS : va_S A H0 H locs) (isR isC : List Nat) (hmap : (isR ++ isC).map (fun i => wc[i]?) = (wr ++ w).map some) (hnd : va_nd (isR ++ isC) = true) (hm : ∀ u, (w' u).map Prod.fst = w.map Prod.fst)
    (kk : ∀ (u : S) (H1 : Heap) (locs1 : List Loc), px u → va_P D vwCl (wr ++ w' u) H1 → va_D A (wr ++ w' u) → va_S A H0 H1 locs1 → H.size ≤ H1.size → (∀ q : Nat, q < H.size → ¬ k_A w q → H1[q]? = H[q]?) → W p l e R s m args below meth c H1 locs1 (cells + mc) (slots + ms) Q (F0 m (pc + 3) ls ((ans u).toList ++ rest))) : W p l e R s m args below meth c H locs cells slots Q (F0 m pc ls st0) := by
  subst hst
  exact k_goW (va_runV (H := H) (locs := locs) (cells := cells) (slots := slots) (g := F0 m pc ls (As.reverse ++ .ref b :: rest)) (rest := rest) F hM cw ⟨k_P_bl hbl, hrec, fun U hU hW => ⟨rfl, hB U hU hW⟩⟩ rfl hn hsize rfl (lv_room hW) hdg hf) hP hD hS isR isC hmap hnd hm kk
theorem k_callSW {S : Type} {D : va_G} {w : va_W} {px : S → Prop} {w' : S → va_W} {ans : S → Option Value} (F : CallFix p m c cc nL s args Ts own) (hM : Met l y ws rm (k_P As B) (k_WQ D w px w' ans) mc ms (k_A w)) (cw : CallB R s args own index y bytes maxL ret ws rm mc ms n ∧ (Cond.static y).before args s = true)
    (hbl : k_bl B) (hB : ∀ U : State, U.heap = H → s.WarmedH U.vm → B U) (hn : As.length = n) (hsize : ls.size = nL) (hst : st0 = As.reverse ++ rest) (hW : (rest.map fun v => v.category).sum ≤ 8) (hdg : decode cc pc = .ok (.invokestatic index, 3)) (hf : cells + mc ≤ R.cells ∧ slots + ms ≤ R.slots)
    {A : Nat → Prop} {H0 : Heap} {wc wr : va_W} (hP : va_P D vwCl wc H) (hD : va_D A wc) (hS : va_S A H0 H locs) (isR isC : List Nat) (hmap : (isR ++ isC).map (fun i => wc[i]?) = (wr ++ w).map some) (hnd : va_nd (isR ++ isC) = true) (hm : ∀ u, (w' u).map Prod.fst = w.map Prod.fst)
    (kk : ∀ (u : S) (H1 : Heap) (locs1 : List Loc), px u → va_P D vwCl (wr ++ w' u) H1 → va_D A (wr ++ w' u) → va_S A H0 H1 locs1 → H.size ≤ H1.size → (∀ q : Nat, q < H.size → ¬ k_A w q → H1[q]? = H[q]?) → W p l e R s m args below meth c H1 locs1 (cells + mc) (slots + ms) Q (F0 m (pc + 3) ls ((ans u).toList ++ rest))) : W p l e R s m args below meth c H locs cells slots Q (F0 m pc ls st0) := by
  subst hst
  exact k_goW (va_runS (H := H) (locs := locs) (cells := cells) (slots := slots) (g := F0 m pc ls (As.reverse ++ rest)) (rest := rest) F hM cw ⟨k_P_bl hbl, fun U hU hW => ⟨rfl, hB U hU hW⟩⟩ rfl hn hsize rfl (lv_room hW) hdg hf) hP hD hS isR isC hmap hnd hm kk
-- ends
theorem k_iret {x y0 : Int32} (hx : p.tables.exec = Jvm.exec) (hb : c.code = cc) (hr : meth.sig.returnType = some .int) (hlocks : meth.locks = false) (hdg : decode cc pc = .ok (.ireturn, 1)) (hv : x = y0) : W p l e R s m args below meth c s.heap [] 0 0 (MQ below (k_Q (some (.int y0))) args s 0 0 k_N) (F0 m pc ls [.int x]) := by
  subst hv
  exact W.iret hx hb hr (fun t ht hW => ⟨rfl, ht⟩) (fun q hq => nomatch hq) hdg hlocks
theorem k_zret {x : Int32} {b0 : Bool} (hx : p.tables.exec = Jvm.exec) (hb : c.code = cc) (hr : meth.sig.returnType = some .boolean) (hlocks : meth.locks = false) (hdg : decode cc pc = .ok (.ireturn, 1)) (hv : x = bI b0) : W p l e R s m args below meth c s.heap [] 0 0 (MQ below (k_Q (some (.int (bI b0)))) args s 0 0 k_N) (F0 m pc ls [.int x]) := by
  subst hv
  exact W.zret hx hb hr (bI_nar b0) (fun t ht hW => ⟨rfl, ht⟩) (fun q hq => nomatch hq) hdg hlocks
theorem k_vretC {Cp : Prop} (hx : p.tables.exec = Jvm.exec) (hb : c.code = cc) (hr : meth.sig.returnType = none) (hlocks : meth.locks = false) (hdg : decode cc pc = .ok (.return_, 1)) (hc : Cp) {px : String → Prop} (h1 : cells ≤ mc) (h2 : slots ≤ ms) : W p l e R s m args below meth c s.heap [] cells slots (vx_MQ below (k_CQ none Cp) (k_XC px) args s mc ms k_N) (F0 m pc ls []) := by
  refine W.widen (k := mc) (n := ms) h1 h2 (vx_ret ?_)
  exact W.vret hx hb hr (fun t ht hW => ⟨rfl, ht, hc⟩) (fun q hq => nomatch hq) hdg hlocks
theorem k_wiret {S : Type} {D : va_G} {w : va_W} {px : S → Prop} {w' : S → va_W} {ans : S → Option Value} (u : S) {x : Int32} (hx : p.tables.exec = Jvm.exec) (hb : c.code = cc) (hr : meth.sig.returnType = some .int) (hlocks : meth.locks = false) (hdg : decode cc pc = .ok (.ireturn, 1)) (hp : px u) (ha : ans u = some (.int x)) (hP : va_P D vwCl (w' u) H) (hS : va_S (k_A w) s.heap H locs) (h1 : cells ≤ mc) (h2 : slots ≤ ms) : W p l e R s m args below meth c H locs cells slots (MQ below (k_WQ D w px w' ans) args s mc ms (k_A w)) (F0 m pc ls [.int x]) := by
  refine W.widen (k := mc) (n := ms) h1 h2 ?_
  exact W.iret hx hb hr (fun t ht hW => ⟨u, hp, by rw [ha], by rw [ht]; exact hP, hS.F ht⟩) hS.2.2 hdg hlocks
theorem k_wzret {S : Type} {D : va_G} {w : va_W} {px : S → Prop} {w' : S → va_W} {ans : S → Option Value} (u : S) {x : Int32} (b0 : Bool) (hx : p.tables.exec = Jvm.exec) (hb : c.code = cc) (hr : meth.sig.returnType = some .boolean) (hlocks : meth.locks = false) (hdg : decode cc pc = .ok (.ireturn, 1)) (hv : x = bI b0) (hp : px u) (ha : ans u = some (.int x)) (hP : va_P D vwCl (w' u) H) (hS : va_S (k_A w) s.heap H locs) (h1 : cells ≤ mc) (h2 : slots ≤ ms) : W p l e R s m args below meth c H locs cells slots (MQ below (k_WQ D w px w' ans) args s mc ms (k_A w)) (F0 m pc ls [.int x]) := by
  refine W.widen (k := mc) (n := ms) h1 h2 ?_
  exact W.zret hx hb hr (by rw [hv]; exact bI_nar b0) (fun t ht hW => ⟨u, hp, by rw [ha], by rw [ht]; exact hP, hS.F ht⟩) hS.2.2 hdg hlocks
theorem k_wlret {S : Type} {D : va_G} {w : va_W} {px : S → Prop} {w' : S → va_W} {ans : S → Option Value} (u : S) {x : Int64} (hx : p.tables.exec = Jvm.exec) (hb : c.code = cc) (hr : meth.sig.returnType = some .long) (hlocks : meth.locks = false) (hdg : decode cc pc = .ok (.lreturn, 1)) (hp : px u) (ha : ans u = some (.long x)) (hP : va_P D vwCl (w' u) H) (hS : va_S (k_A w) s.heap H locs) (h1 : cells ≤ mc) (h2 : slots ≤ ms) : W p l e R s m args below meth c H locs cells slots (MQ below (k_WQ D w px w' ans) args s mc ms (k_A w)) (F0 m pc ls [.long x]) := by
  refine W.widen (k := mc) (n := ms) h1 h2 ?_
  exact W.lret hx hb hr (fun t ht hW => ⟨u, hp, by rw [ha], by rw [ht]; exact hP, hS.F ht⟩) hS.2.2 hdg hlocks
theorem k_wvret {S : Type} {D : va_G} {w : va_W} {px : S → Prop} {w' : S → va_W} {ans : S → Option Value} (u : S) (hx : p.tables.exec = Jvm.exec) (hb : c.code = cc) (hr : meth.sig.returnType = none) (hlocks : meth.locks = false) (hdg : decode cc pc = .ok (.return_, 1)) (hp : px u) (ha : ans u = none) (hP : va_P D vwCl (w' u) H) (hS : va_S (k_A w) s.heap H locs) (h1 : cells ≤ mc) (h2 : slots ≤ ms) : W p l e R s m args below meth c H locs cells slots (MQ below (k_WQ D w px w' ans) args s mc ms (k_A w)) (F0 m pc ls []) := by
  refine W.widen (k := mc) (n := ms) h1 h2 ?_
  exact W.vret hx hb hr (fun t ht hW => ⟨u, hp, by rw [ha], by rw [ht]; exact hP, hS.F ht⟩) hS.2.2 hdg hlocks
end LIBC
