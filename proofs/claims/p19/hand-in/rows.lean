section
-- ===== PART A: goes FIRST, ahead of the names: the tables' words, and 'selects' of the private methods out of them =====
/-- a private method of a class that the tables say can be made, by its rows of tables_1 -/
def lw_okq (q : MethodName × Nat) : Prop := (q.1.cls ≠ "java/lang/invoke/MethodHandle" ∧ q.1.cls ≠ "java/lang/invoke/VarHandle") ∧ Cond.instantiable q.1.cls q.2 ∈ tables_1 ∧ Cond.privateMethod q.1 ∈ tables_1 ∧ Cond.instanceMethod q.1 ∈ tables_1
theorem lw_p0 : lw_okq (⟨"java/lang/Throwable", "fillInStackTrace", "(I)Ljava/lang/Throwable;"⟩, 6) := ⟨⟨by decide +kernel, by decide +kernel⟩, List.mem_of_getElem? (i := 100) (by decide +kernel), List.mem_of_getElem? (i := 98) (by decide +kernel), List.mem_of_getElem? (i := 99) (by decide +kernel)⟩
theorem lw_p1 : lw_okq (⟨"SignRail", "forgetWalks", "()V"⟩, 10) := ⟨⟨by decide +kernel, by decide +kernel⟩, List.mem_of_getElem? (i := 12) (by decide +kernel), List.mem_of_getElem? (i := 165) (by decide +kernel), List.mem_of_getElem? (i := 166) (by decide +kernel)⟩
theorem lw_p2 : lw_okq (⟨"SignRail", "packedWidth", "(I)I"⟩, 10) := ⟨⟨by decide +kernel, by decide +kernel⟩, List.mem_of_getElem? (i := 12) (by decide +kernel), List.mem_of_getElem? (i := 217) (by decide +kernel), List.mem_of_getElem? (i := 218) (by decide +kernel)⟩
theorem lw_p3 : lw_okq (⟨"SignRail", "plateFor", "(I)I"⟩, 10) := ⟨⟨by decide +kernel, by decide +kernel⟩, List.mem_of_getElem? (i := 12) (by decide +kernel), List.mem_of_getElem? (i := 238) (by decide +kernel), List.mem_of_getElem? (i := 239) (by decide +kernel)⟩
theorem lw_p4 : lw_okq (⟨"SignRail", "engrave", "(II)V"⟩, 10) := ⟨⟨by decide +kernel, by decide +kernel⟩, List.mem_of_getElem? (i := 12) (by decide +kernel), List.mem_of_getElem? (i := 258) (by decide +kernel), List.mem_of_getElem? (i := 259) (by decide +kernel)⟩
theorem lw_p5 : lw_okq (⟨"SignRail", "isOutdated", "(I)Z"⟩, 10) := ⟨⟨by decide +kernel, by decide +kernel⟩, List.mem_of_getElem? (i := 12) (by decide +kernel), List.mem_of_getElem? (i := 270) (by decide +kernel), List.mem_of_getElem? (i := 271) (by decide +kernel)⟩
theorem lw_p6 : lw_okq (⟨"SignRail", "readText", "(I)I"⟩, 10) := ⟨⟨by decide +kernel, by decide +kernel⟩, List.mem_of_getElem? (i := 12) (by decide +kernel), List.mem_of_getElem? (i := 278) (by decide +kernel), List.mem_of_getElem? (i := 279) (by decide +kernel)⟩
theorem lw_p7 : lw_okq (⟨"SignRail", "readGlyph", "(II)I"⟩, 10) := ⟨⟨by decide +kernel, by decide +kernel⟩, List.mem_of_getElem? (i := 12) (by decide +kernel), List.mem_of_getElem? (i := 282) (by decide +kernel), List.mem_of_getElem? (i := 283) (by decide +kernel)⟩
theorem lw_p8 : lw_okq (⟨"SignRail", "nearestGlyph", "(II)I"⟩, 10) := ⟨⟨by decide +kernel, by decide +kernel⟩, List.mem_of_getElem? (i := 12) (by decide +kernel), List.mem_of_getElem? (i := 286) (by decide +kernel), List.mem_of_getElem? (i := 287) (by decide +kernel)⟩
theorem lw_p9 : lw_okq (⟨"SignRail", "stepsToArrive", "(II)I"⟩, 10) := ⟨⟨by decide +kernel, by decide +kernel⟩, List.mem_of_getElem? (i := 12) (by decide +kernel), List.mem_of_getElem? (i := 301) (by decide +kernel), List.mem_of_getElem? (i := 302) (by decide +kernel)⟩
theorem lw_p10 : lw_okq (⟨"SignRail", "nextWay", "(III)I"⟩, 10) := ⟨⟨by decide +kernel, by decide +kernel⟩, List.mem_of_getElem? (i := 12) (by decide +kernel), List.mem_of_getElem? (i := 305) (by decide +kernel), List.mem_of_getElem? (i := 306) (by decide +kernel)⟩
theorem lw_p11 : lw_okq (⟨"SignRail", "placeReached", "(III)I"⟩, 10) := ⟨⟨by decide +kernel, by decide +kernel⟩, List.mem_of_getElem? (i := 12) (by decide +kernel), List.mem_of_getElem? (i := 324) (by decide +kernel), List.mem_of_getElem? (i := 325) (by decide +kernel)⟩
def lw_privs_1 : List (MethodName × Nat) := [(⟨"java/lang/Throwable", "fillInStackTrace", "(I)Ljava/lang/Throwable;"⟩, 6), (⟨"SignRail", "forgetWalks", "()V"⟩, 10), (⟨"SignRail", "packedWidth", "(I)I"⟩, 10), (⟨"SignRail", "plateFor", "(I)I"⟩, 10), (⟨"SignRail", "engrave", "(II)V"⟩, 10), (⟨"SignRail", "isOutdated", "(I)Z"⟩, 10), (⟨"SignRail", "readText", "(I)I"⟩, 10), (⟨"SignRail", "readGlyph", "(II)I"⟩, 10), (⟨"SignRail", "nearestGlyph", "(II)I"⟩, 10), (⟨"SignRail", "stepsToArrive", "(II)I"⟩, 10), (⟨"SignRail", "nextWay", "(III)I"⟩, 10), (⟨"SignRail", "placeReached", "(III)I"⟩, 10)]
theorem lw_r1 : ∀ q ∈ lw_privs_1, lw_okq q := List.forall_mem_cons.mpr ⟨lw_p0, List.forall_mem_cons.mpr ⟨lw_p1, List.forall_mem_cons.mpr ⟨lw_p2, List.forall_mem_cons.mpr ⟨lw_p3, List.forall_mem_cons.mpr ⟨lw_p4, List.forall_mem_cons.mpr ⟨lw_p5, List.forall_mem_cons.mpr ⟨lw_p6, List.forall_mem_cons.mpr ⟨lw_p7, List.forall_mem_cons.mpr ⟨lw_p8, List.forall_mem_cons.mpr ⟨lw_p9, List.forall_mem_cons.mpr ⟨lw_p10, List.forall_mem_cons.mpr ⟨lw_p11, fun _ h => absurd h List.not_mem_nil⟩⟩⟩⟩⟩⟩⟩⟩⟩⟩⟩⟩
def lw_privs : List (MethodName × Nat) := lw_privs_1
def lw_tbl : List Cond := k2_sels lw_privs ++ tables_1
theorem lw_privs_ok : ∀ q ∈ lw_privs, lw_okq q := lw_r1
end
section
/-! ===== BEGIN words of one list among another's, by their places ===== -/
theorem goodIn_r {big : List Cond} (ws : List Cond) (ps : List Nat) (hp : ws = ps.filterMap (fun i => big[i]?)) (h : ws.all goodWord = true) : GoodIn big ws := by
  intro w hw
  have h1 := List.all_eq_true.mp h w hw
  rw [hp] at hw
  obtain ⟨i, -, hi⟩ := List.mem_filterMap.mp hw
  have hm : w ∈ big := by first | exact List.mem_of_getElem? hi | exact List.getElem?_mem hi
  exact ⟨hm, good_of_word h1⟩
theorem goodIn_app {big a b : List Cond} (ha : GoodIn big a) (hb : GoodIn big b) : GoodIn big (a ++ b) := fun w h => (List.mem_append.mp h).elim (ha w) (hb w)
theorem goodIn_ca {big a b : List Cond} {c : Cond} (ha : GoodIn big (c :: a)) (hb : GoodIn big b) : GoodIn big (c :: (a ++ b)) := fun w h => (List.mem_cons.mp h).elim (fun e => ha w (List.mem_cons.mpr (Or.inl e))) (fun h => (List.mem_append.mp h).elim (fun h => ha w (List.mem_cons.mpr (Or.inr h))) (hb w))
theorem goodIn_sub {big ws : List Cond} (hm : ∀ w ∈ ws, w ∈ big) (h : ws.all goodWord = true) : GoodIn big ws := fun w hw => ⟨hm w hw, good_of_word (List.all_eq_true.mp h w hw)⟩
/-! ===== END ===== -/

/-! ===== BEGIN exceptions that leave a method, and their catching by the caller (launches without stack traces) ===== -/
section VXA
/-! The laws vx_back, vx_callV, vx_callS, vx_callSW, vx_throw0, vx_throwS follow proofs of the library, with one case more: JvmDerived/Free/Laws.lean (Back.of_free), Shelf42/LK1.lean (callV, callS), Shelf/KitTraced.lean (throwNew0V, throwNewS). -/
/-- where a method has thrown q: the class by its name, the cell, what was written, the world -/
def vx_T (XC : String → State → State → Prop) (st : State) (q : Addr) (t : State) (mc ms : Nat) (free : Addr → Prop) : Prop :=
  ∃ (E : String) (ce : Cell) (L : List Loc), XC E st t ∧ t.heap[q]? = some ce ∧ ce.vm = .none ∧ st.vm.findClass E = some ce.cls ∧ st.WarmedH t.vm ∧ st.sameButNew ({ t with vm := st.vm } : State) L mc ms ∧ ∀ z ∈ L, free z.base
def vx_Q (Qc : Array Value → State → Outcome → State → Prop) (XC : String → State → State → Prop) (mc ms : Nat) (free : Addr → Prop) : Array Value → State → Outcome → State → Prop := fun a st o t =>
  (Qc a st o t ∧ ∃ L, FrameEnd st o t L mc ms ∧ ∀ q ∈ L, free q.base) ∨ ∃ q, o = .threw q ∧ vx_T XC st q t mc ms free
/-- a callee that returns or throws -/
def vx_Met (l : Launch) (y : MethodName) (ws : List Cond) (rm : Room) (Pc : Array Value → State → Prop) (Qc : Array Value → State → Outcome → State → Prop) (XC : String → State → State → Prop) (mc ms : Nat) (free : Addr → Prop) : Prop :=
  MetFree l y (headSpec ws rm) Pc (fun _ _ _ _ _ => True) (vx_Q Qc XC mc ms free)
def vx_Post (XC : String → State → State → Prop) (mc ms : Nat) (free : Addr → Prop) : Pt → Array Value → Addr → Pt → Prop := fun A a q B =>
  ∃ (g : JFrame) (mk : MethodId) (t : State) (L : List Loc) (E : String) (ce : Cell), B.U.heap = t.heap ∧ B.U.vm = t.vm ∧ XC E (A.U.calling g mk a) t ∧ t.heap[q]? = some ce ∧ ce.vm = .none ∧ A.U.vm.findClass E = some ce.cls ∧ B.locs = A.locs ++ L ∧ (∀ z ∈ L, free z.base) ∧ B.cells = A.cells + mc ∧ B.slots = A.slots + ms
def vx_Back (l : Launch) (R : Room) (p : Program) (e : Env) (below : List Frame) (s : State) (sargs : Array Value) (y : MethodName) (len W9 : Nat)
    (Pre : Pt → Array Value → Prop) (Post : Pt → Array Value → Option Value → Pt → Prop) (PostX : Pt → Array Value → Addr → Pt → Prop) : Prop :=
  ∀ (m : MethodId) (meth : Method) (c : Code) (A : Pt) (g : JFrame) (ig : Instr) (mk : MethodId) (a : Array Value),
    Stand p l e R s m sargs below meth c A.U A.locs A.cells A.slots → g.method = m → g.locals.size = c.maxLocals → decode c.code g.pc = .ok (ig, len) →
    2 * g.monitorRoom + (g.stack.map fun v => v.category).sum ≤ W9 → A.U.methodNamed? y = some mk → Pre A a →
    (∃ (v : Option Value) (B : Pt), Stand p l e R s m sargs below meth c B.U B.locs B.cells B.slots ∧ Post A a v B ∧
      Steps p.tables e below (doInvoke e (A.U.setTop g) [] mk a).1 (B.U.setTop { g with pc := g.pc + len, stack := v.toList ++ g.stack })) ∨
    (∃ (q : Addr) (B : Pt), Stand p l e R s m sargs below meth c B.U B.locs B.cells B.slots ∧ PostX A a q B ∧
      Steps p.tables e below (doInvoke e (A.U.setTop g) [] mk a).1 ((B.U.setTop g).pushFrame (.throwing q)))
section Payer
variable {l : Launch} {R : Room} {p : Program} {e : Env} {below : List Frame} {s : State} {sargs : Array Value} {y : MethodName} {len W9 : Nat}
theorem vx_back {ws : List Cond} {rm : Room} {Pc : Array Value → State → Prop} {Qc : Array Value → State → Outcome → State → Prop} {XC : String → State → State → Prop} {mc ms : Nat} {free : Addr → Prop} {bytes : ByteArray} {maxL : Nat} {ret : Option FieldType}
    (hM : vx_Met l y ws rm Pc Qc XC mc ms free) (hblind : FrameBlind Pc) (hrc : rm.cells = mc) (hrs : rm.slots = ms)
    (hframes : rm.frames + 1 ≤ R.frames) (hlocals : W9 + (maxL + 11) + rm.locals ≤ R.locals)
    (hws : ∀ w ∈ ws, ∀ a' U, s.WarmedH U.vm → w.before a' U = true) (hcode : Cond.code y bytes maxL ret ∈ ws) (hinit : ∀ a' U, s.WarmedH U.vm → (Cond.initialized y.cls).before a' U = true) :
    vx_Back l R p e below s sargs y len W9 (PreOf R mc ms Pc) (PostOf Qc mc ms free) (vx_Post XC mc ms free) := by
  intro m meth c A g ig mk a X hg hsize hdg hW hn hp
  have h1 : (headSpec ws rm).pre.before a A.U = true := atoms_intro fun w hw => hws w hw _ _ X.warmed
  have h2 : (Cond.code y bytes maxL ret).before a A.U = true := hws _ hcode _ _ X.warmed
  have h3 : (Cond.initialized y.cls).before a A.U = true := hinit _ _ X.warmed
  have h4 : A.cells + (headSpec ws rm).room.cells ≤ R.cells := by rw [show (headSpec ws rm).room.cells = mc from hrc]; exact hp.1
  have h5 : A.slots + (headSpec ws rm).room.slots ≤ R.slots := by rw [show (headSpec ws rm).room.slots = ms from hrs]; exact hp.2.1
  have hPc : Pc a (A.U.calling g mk a) := hblind _ _ _ _ hp.2.2
  obtain ⟨U, Ls, c0, s0⟩ := A
  dsimp only [Pt.U, Pt.locs, Pt.cells, Pt.slots] at h1 h2 h3 h4 h5 X hn hPc ⊢
  obtain ⟨methY, cY, hmY, hcY, -, hlY, -, -, -, -⟩ := Cond.code_spec hn h2
  obtain ⟨kY, hkY, -⟩ := className_of_methodNamed hn
  have hinitY : kY.init = .initialized := Cond.initialized_spec (findClass_of_methodNamed hn) hkY h3
  have h : At U g.method c below := by rw [hg]; exact X.here
  have hlocals9 : W9 + (maxL + 11) + (headSpec ws rm).room.locals ≤ R.locals := hlocals
  have happ : (headSpec ws rm).appliesLoose y e.platform (U.calling g mk a) = true :=
    Spec.appliesLoose_calling (g := g) h hdg hn hkY hinitY
      (X.room_calling (g := g) (R' := (headSpec ws rm).room) hsize hmY hcY hframes (by rw [hlY]; omega) h4 h5) h1
  obtain ⟨mid, hmid⟩ := h.above
  have hfr : (U.setTop g).frames = (.java g :: mid) ++ below := by rw [State.frames_setTop' g h.top, hmid]; rfl
  obtain ⟨o, s₂, hsteps, -, hend, hq⟩ := Steps.callFree hM p X.admits X.cas X.clock (acts := []) hfr happ hPc trivial
  have hq' : vx_Q Qc XC mc ms free a (U.calling g mk a) o s₂ := hq
  rw [State.frames_setTop' g h.top] at hend
  obtain ⟨g₀, hg0⟩ := Option.isSome_iff_exists.mp h.top
  obtain ⟨r, hr⟩ := State.topJava?_eq_some.mp hg0
  have hr' : (({ U with heap := s₂.heap, slotsUsed := s₂.slotsUsed } : State).setVm s₂.vm).frames = .java g₀ :: r := hr
  rcases hq' with ⟨hqc, L, hfe, hL⟩ | ⟨q, rfl, E, ce, L, hx, hce, hcv, hcl, hW₂, hsm, hL⟩
  · obtain ⟨⟨v, rfl⟩, hW₂, e2, q2, q3, q4, q5, q6⟩ := id hfe
    have e3 : s₂ = ({ (U.calling g mk a).setFrames s₂.frames with heap := s₂.heap, slotsUsed := s₂.slotsUsed } : State).setVm s₂.vm := by
      have : s₂ = ({ s₂ with vm := (U.calling g mk a).vm } : State).setVm s₂.vm := rfl
      rw [e2] at this
      exact this
    obtain ⟨c₂, i₂, len₂, hc₂, hd₂, hf₂⟩ := hend
    have hW' : U.WarmedH s₂.vm := hW₂
    have hcc : c₂ = c := by
      have h1 : s₂.code? g.method = U.code? g.method := by
        rw [State.code?_eq, State.code?_eq, hW'.alike.method?]
      exact Option.some.inj (hc₂.symm.trans (h1.trans h.code))
    subst hcc
    have hlen : len₂ = len := by rw [hdg] at hd₂; cases hd₂; rfl
    subst hlen
    have hs₂ : s₂ = (({ U with heap := s₂.heap, slotsUsed := s₂.slotsUsed } : State).setVm s₂.vm).setTop { g with pc := g.pc + len₂, stack := v.toList ++ g.stack } := by
      refine e3.trans ?_
      rw [hf₂, State.calling_eq h.top, State.setFrames_setFrames, State.setTop_of_frames _ hr', hr]
      rfl
    have hsame : U.sameButNew ({ U with heap := s₂.heap, slotsUsed := s₂.slotsUsed } : State) L mc ms := by
      refine ⟨?_, q2, q3, q4, q5, q6⟩
      obtain ⟨t, ht, -⟩ := State.frames_cons hr
      show ({ U with heap := s₂.heap, slotsUsed := s₂.slotsUsed } : State) = { U.setFrames U.frames with heap := s₂.heap, slotsUsed := s₂.slotsUsed }
      rw [State.setFrames_self ht]
    subst hg
    refine Or.inl ⟨v, ⟨(({ U with heap := s₂.heap, slotsUsed := s₂.slotsUsed } : State).setVm s₂.vm), Ls ++ L, c0 + mc, s0 + ms⟩,
      ⟨X.admits, X.cas, X.clock, X.frames, X.room, X.hears, X.method, X.code, (X.here.setHeapUsed s₂.heap s₂.slotsUsed).setVm hW'.alike, X.tail, State.WarmedH.trans X.warmed hW', X.limits, X.bytes, X.same.trans (hsame.setVm s.vm)⟩,
      ⟨g, mk, s₂, L, rfl, rfl, hqc, rfl, hL, rfl, rfl⟩, ?_⟩
    show Steps p.tables e below _ ((({ U with heap := s₂.heap, slotsUsed := s₂.slotsUsed } : State).setVm s₂.vm).setTop { g with pc := g.pc + len₂, stack := v.toList ++ g.stack })
    rw [← hs₂]
    exact hsteps
  · obtain ⟨e2, q2, q3, q4, q5, q6⟩ := id hsm
    have e3 : s₂ = ({ (U.calling g mk a).setFrames s₂.frames with heap := s₂.heap, slotsUsed := s₂.slotsUsed } : State).setVm s₂.vm := by
      have : s₂ = ({ s₂ with vm := (U.calling g mk a).vm } : State).setVm s₂.vm := rfl
      rw [e2] at this
      exact this
    have hf₂ : s₂.frames = .throwing q :: .java g :: U.frames.tail := hend
    have hW' : U.WarmedH s₂.vm := hW₂
    have hs₂ : s₂ = ((({ U with heap := s₂.heap, slotsUsed := s₂.slotsUsed } : State).setVm s₂.vm).setTop g).pushFrame (.throwing q) := by
      refine e3.trans ?_
      rw [hf₂, State.calling_eq h.top, State.setFrames_setFrames, State.pushFrame, State.frames_setTop _ hr', State.setTop_of_frames _ hr', State.setFrames_setFrames, hr]
      rfl
    have hsame : U.sameButNew ({ U with heap := s₂.heap, slotsUsed := s₂.slotsUsed } : State) L mc ms := by
      refine ⟨?_, q2, q3, q4, q5, q6⟩
      obtain ⟨t, ht, -⟩ := State.frames_cons hr
      show ({ U with heap := s₂.heap, slotsUsed := s₂.slotsUsed } : State) = { U.setFrames U.frames with heap := s₂.heap, slotsUsed := s₂.slotsUsed }
      rw [State.setFrames_self ht]
    subst hg
    refine Or.inr ⟨q, ⟨(({ U with heap := s₂.heap, slotsUsed := s₂.slotsUsed } : State).setVm s₂.vm), Ls ++ L, c0 + mc, s0 + ms⟩,
      ⟨X.admits, X.cas, X.clock, X.frames, X.room, X.hears, X.method, X.code, (X.here.setHeapUsed s₂.heap s₂.slotsUsed).setVm hW'.alike, X.tail, State.WarmedH.trans X.warmed hW', X.limits, X.bytes, X.same.trans (hsame.setVm s.vm)⟩,
      ⟨g, mk, s₂, L, E, ce, rfl, rfl, hx, hce, hcv, hcl, rfl, hL, rfl, rfl⟩, ?_⟩
    show Steps p.tables e below _ (((({ U with heap := s₂.heap, slotsUsed := s₂.slotsUsed } : State).setVm s₂.vm).setTop g).pushFrame (.throwing q))
    rw [← hs₂]
    exact hsteps
end Payer
section Calls
variable {p : Program} {l : Launch} {e : Env} {R : Room} {s : State} {m : MethodId} {args : Array Value} {below : List Frame} {meth : Method} {c : Code} {T : State} {locs : List Loc} {cells slots : Nat}
theorem vx_callV (X : Stand p l e R s m args below meth c T locs cells slots) (hexec : p.tables.exec = Jvm.exec) {own C : String} {index : Nat} {y : MethodName} {bytes : ByteArray} {maxL : Nat} {ret : Option FieldType}
    (hown : s.vm.findClass own = some m.cls) (hlink : (Cond.methodLink own index y).before args s = true) (hinst : (Cond.instanceMethod y).before args s = true) (hsel : (Cond.selects C y y).before args s = true)
    (hcode : (Cond.code y bytes maxL ret).before args s = true) (hy : y.cls ≠ "java/lang/invoke/MethodHandle" ∧ y.cls ≠ "java/lang/invoke/VarHandle")
    {W9 : Nat} {Pre : Pt → Array Value → Prop} {Post : Pt → Array Value → Option Value → Pt → Prop} {PostX : Pt → Array Value → Addr → Pt → Prop} (hK : vx_Back l R p e below s args y 3 W9 Pre Post PostX)
    {b : Addr} {cellB : Cell} (hcell : T.heap[b]? = some cellB) (hobj : cellB.vm.isStatics = false) (hcls : s.vm.findClass C = some cellB.cls)
    {g : JFrame} (hg : g.method = m) (hsize : g.locals.size = c.maxLocals) {argsL rest : List Value} (hlen : ∀ sig, parseMethodDescriptor y.desc = some sig → argsL.length = sig.parameters.length)
    (hstack : g.stack = argsL.reverse ++ .ref b :: rest) (hW : 2 * g.monitorRoom + (rest.map fun v => v.category).sum ≤ W9) (hdg : decode c.code g.pc = .ok (.invokevirtual index, 3))
    (hpre : ∀ vm₁, s.WarmedH vm₁ → Pre ⟨T.setVm vm₁, locs, cells, slots⟩ (Value.ref b :: argsL).toArray) :
    (∃ (v : Option Value) (vm₁ : Vm) (B : Pt), s.WarmedH vm₁ ∧ Stand p l e R s m args below meth c B.U B.locs B.cells B.slots ∧ Post ⟨T.setVm vm₁, locs, cells, slots⟩ (Value.ref b :: argsL).toArray v B ∧
      ∀ target, Steps p.tables e below (B.U.setTop { g with pc := g.pc + 3, stack := v.toList ++ rest }) target → Steps p.tables e below (T.setTop g) target) ∨
    (∃ (q : Addr) (vm₁ : Vm) (B : Pt), s.WarmedH vm₁ ∧ Stand p l e R s m args below meth c B.U B.locs B.cells B.slots ∧ PostX ⟨T.setVm vm₁, locs, cells, slots⟩ (Value.ref b :: argsL).toArray q B ∧
      Steps p.tables e below (T.setTop g) ((B.U.setTop { g with stack := rest }).pushFrame (.throwing q))) := by
  obtain ⟨mk, methM, hnamed, hmethM, hstM, habM⟩ := Cond.instanceMethod_spec hinst
  obtain ⟨methM', cM, hmethM', -, -, -, -, -, -, hsigM⟩ := Cond.code_spec hnamed hcode
  cases hmethM.symm.trans hmethM'
  obtain ⟨c2, r2, m2, q1, q2, q3, q4, kP, hkP, hkPi⟩ := Cond.selects_spec hsel
  cases hcls.symm.trans q1
  cases (State.methodFound?_of_named hnamed hy).symm.trans q2
  cases hnamed.symm.trans q3
  have hselP : selectMethod e.platform s.vm cellB.cls mk = .method mk := by rw [Launch.admits_selectMethod X.admits]; exact q4
  obtain ⟨vm₁, X₁, hstep₁⟩ := X.invokevirtual hexec hown hlink hnamed hmethM hstM hkP hkPi hy (a := b) (cell := cellB) hcell
    (fun z h => by rw [h] at hobj; cases hobj) hselP hmethM habM hkP hkPi (g := g) hg (argsL := argsL) (rest := rest) (hlen _ hsigM) hstack hdg
  rcases hK m meth c ⟨T.setVm vm₁, locs, cells, slots⟩ { g with stack := rest } (.invokevirtual index) mk (Value.ref b :: argsL).toArray X₁ hg hsize hdg hW (X₁.named hnamed) (hpre vm₁ X₁.warmed) with ⟨v, B, X', hpost, hsteps⟩ | ⟨q, B, X', hpost, hsteps⟩
  · exact Or.inl ⟨v, vm₁, B, X₁.warmed, X', hpost, fun target h => hstep₁ _ fun acts => by rw [doInvoke_state]; exact hsteps.trans h⟩
  · exact Or.inr ⟨q, vm₁, B, X₁.warmed, X', hpost, hstep₁ _ fun acts => by rw [doInvoke_state]; exact hsteps⟩
theorem vx_callS (X : Stand p l e R s m args below meth c T locs cells slots) (hexec : p.tables.exec = Jvm.exec) {own : String} {index : Nat} {y : MethodName} {bytes : ByteArray} {maxL : Nat} {ret : Option FieldType}
    (hown : s.vm.findClass own = some m.cls) (hlink : (Cond.methodLink own index y).before args s = true) (hstat : (Cond.static y).before args s = true) (hinit : (Cond.initialized y.cls).before args s = true)
    (hcode : (Cond.code y bytes maxL ret).before args s = true) (hy : y.cls ≠ "java/lang/invoke/MethodHandle" ∧ y.cls ≠ "java/lang/invoke/VarHandle")
    {W9 : Nat} {Pre : Pt → Array Value → Prop} {Post : Pt → Array Value → Option Value → Pt → Prop} {PostX : Pt → Array Value → Addr → Pt → Prop} (hK : vx_Back l R p e below s args y 3 W9 Pre Post PostX)
    {g : JFrame} (hg : g.method = m) (hsize : g.locals.size = c.maxLocals) {argsL rest : List Value} (hlen : ∀ sig, parseMethodDescriptor y.desc = some sig → argsL.length = sig.parameters.length)
    (hstack : g.stack = argsL.reverse ++ rest) (hW : 2 * g.monitorRoom + (rest.map fun v => v.category).sum ≤ W9) (hdg : decode c.code g.pc = .ok (.invokestatic index, 3))
    (hpre : ∀ vm₁, s.WarmedH vm₁ → Pre ⟨T.setVm vm₁, locs, cells, slots⟩ argsL.toArray) :
    (∃ (v : Option Value) (vm₁ : Vm) (B : Pt), s.WarmedH vm₁ ∧ Stand p l e R s m args below meth c B.U B.locs B.cells B.slots ∧ Post ⟨T.setVm vm₁, locs, cells, slots⟩ argsL.toArray v B ∧
      ∀ target, Steps p.tables e below (B.U.setTop { g with pc := g.pc + 3, stack := v.toList ++ rest }) target → Steps p.tables e below (T.setTop g) target) ∨
    (∃ (q : Addr) (vm₁ : Vm) (B : Pt), s.WarmedH vm₁ ∧ Stand p l e R s m args below meth c B.U B.locs B.cells B.slots ∧ PostX ⟨T.setVm vm₁, locs, cells, slots⟩ argsL.toArray q B ∧
      Steps p.tables e below (T.setTop g) ((B.U.setTop { g with stack := rest }).pushFrame (.throwing q))) := by
  obtain ⟨mk, hnamed⟩ := Cond.code_named hcode
  obtain ⟨methM, cM, hmethM, -, -, -, -, -, -, hsigM⟩ := Cond.code_spec hnamed hcode
  have hstatic : methM.isStatic = true := Cond.static_spec hnamed hmethM hstat
  obtain ⟨kP, hkP, -⟩ := className_of_methodNamed hnamed
  have hinitP : kP.init = .initialized := Cond.initialized_spec (findClass_of_methodNamed hnamed) hkP hinit
  obtain ⟨vm₁, X₁, hstep₁⟩ := X.invokestatic hexec hown hlink hnamed hmethM hstatic hkP hinitP hy (g := g) hg (argsL := argsL) (rest := rest) (hlen _ hsigM) hstack hdg
  rcases hK m meth c ⟨T.setVm vm₁, locs, cells, slots⟩ { g with stack := rest } (.invokestatic index) mk argsL.toArray X₁ hg hsize hdg hW (X₁.named hnamed) (hpre vm₁ X₁.warmed) with ⟨v, B, X', hpost, hsteps⟩ | ⟨q, B, X', hpost, hsteps⟩
  · exact Or.inl ⟨v, vm₁, B, X₁.warmed, X', hpost, fun target h => hstep₁ _ fun acts => by rw [doInvoke_state]; exact hsteps.trans h⟩
  · exact Or.inr ⟨q, vm₁, B, X₁.warmed, X', hpost, hstep₁ _ fun acts => by rw [doInvoke_state]; exact hsteps⟩
end Calls
theorem vx_cls {s : State} {T : State} {vm₁ : Vm} {E : String} {k : ClassId} (hW : s.WarmedH vm₁) (h : (T.setVm vm₁).vm.findClass E = some k) : s.vm.findClass E = some k := by
  have h1 : vm₁.findClass E = some k := h
  rw [hW.alike.findClass] at h1
  exact h1
/-- the method's frame g, with q thrown over it -/
def vx_W (p : Program) (l : Launch) (e : Env) (R : Room) (s : State) (m : MethodId) (args : Array Value) (below : List Frame) (meth : Method) (c : Code) (H : Heap) (locs : List Loc) (cells slots : Nat) (Q : State → Prop) (g : JFrame) (q : Addr) : Prop :=
  ∀ T : State, T.heap = H → Stand p l e R s m args below meth c T locs cells slots → ∃ t, Steps p.tables e below ((T.setTop g).pushFrame (.throwing q)) t ∧ Q t
def vx_Run (p : Program) (l : Launch) (e : Env) (R : Room) (s : State) (m : MethodId) (args : Array Value) (below : List Frame) (meth : Method) (c : Code) (H : Heap) (locs : List Loc) (cells slots mc ms : Nat) (g : JFrame) (rest : List Value) (Qa : State → Outcome → State → Prop) (XC : String → State → State → Prop) (free : Addr → Prop) : Prop :=
  ∀ T : State, T.heap = H → Stand p l e R s m args below meth c T locs cells slots →
    (∃ (v : Option Value) (st₀ t T' : State) (L : List Loc), st₀.heap = H ∧ Stand p l e R s m args below meth c T' (locs ++ L) (cells + mc) (slots + ms) ∧ (∀ q ∈ L, free q.base) ∧ T'.heap = t.heap ∧ T'.vm = t.vm ∧ Qa st₀ (.returned v) t ∧
      Goes p e below T g T' { g with pc := g.pc + 3, stack := v.toList ++ rest }) ∨
    (∃ (q : Addr) (st₀ t T' : State) (L : List Loc) (E : String) (ce : Cell), st₀.heap = H ∧ Stand p l e R s m args below meth c T' (locs ++ L) (cells + mc) (slots + ms) ∧ (∀ z ∈ L, free z.base) ∧ T'.heap = t.heap ∧ T'.vm = t.vm ∧ XC E st₀ t ∧ t.heap[q]? = some ce ∧ ce.vm = .none ∧ s.vm.findClass E = some ce.cls ∧
      Steps p.tables e below (T.setTop g) ((T'.setTop { g with stack := rest }).pushFrame (.throwing q)))
def vx_X {S : Type} (px : S → Prop) (B : String → S → State → Prop) (A : Nat → Prop) : String → State → State → Prop := fun E st t => ∃ u : S, px u ∧ B E u t ∧ va_F A st t
section Runs
variable {p : Program} {l : Launch} {e : Env} {R : Room} {s : State} {m : MethodId} {args : Array Value} {below : List Frame} {meth : Method} {c : Code} {H : Heap} {locs : List Loc} {cells slots : Nat}
variable {y : MethodName} {bytes cc : ByteArray} {maxL nL mc ms n index : Nat} {ret : Option FieldType} {ws : List Cond} {rm : Room} {Pc : Array Value → State → Prop} {Qc : Array Value → State → Outcome → State → Prop} {XC : String → State → State → Prop} {free : Addr → Prop} {Ts : List Cond} {own C : String} {b : Addr} {As rest : List Value} {g : JFrame}
theorem vx_callBack (cb : CallB R s args own index y bytes maxL ret ws rm mc ms n) (hM : vx_Met l y ws rm Pc Qc XC mc ms free) (hbl : FrameBlind Pc) : vx_Back l R p e below s args y 3 8 (PreOf R mc ms Pc) (PostOf Qc mc ms free) (vx_Post XC mc ms free) := by
  obtain ⟨hrc, hrs, hfr, hlo, hws, hcw, -, hini, -⟩ := cb
  exact vx_back (bytes := bytes) (maxL := maxL) (ret := ret) hM hbl hrc hrs hfr hlo hws hcw (fun a' U hW => word_at hW (Or.inl (by first | rfl | simp [Cond.onTables, Cond.keeps, Cond.steady])) hini)
theorem vx_runV (S : CallFix p m c cc nL s args Ts own) (hM : vx_Met l y ws rm Pc Qc XC mc ms free) (cw : CallW R s args own C index y bytes maxL ret ws rm mc ms n) (hp : PreV s H C b Pc As)
    (hg : g.method = m) (hn : As.length = n) (hsize : g.locals.size = nL) (hstack : g.stack = As.reverse ++ .ref b :: rest) (hW : 2 * g.monitorRoom + (rest.map fun v => v.category).sum ≤ 8) (hdg : decode cc g.pc = .ok (.invokevirtual index, 3)) (hf : cells + mc ≤ R.cells ∧ slots + ms ≤ R.slots) :
    vx_Run p l e R s m args below meth c H locs cells slots mc ms g rest (Qc (Value.ref b :: As).toArray) XC free := by
  have hK : vx_Back l R p e below s args y 3 8 (PreOf R mc ms Pc) (PostOf Qc mc ms free) (vx_Post XC mc ms free) := vx_callBack cw.1 hM hp.1
  obtain ⟨⟨-, -, -, -, -, -, hcode, -, hy, hlen, hl⟩, hin, hse⟩ := cw
  obtain ⟨hx, hb, hml, ho, -⟩ := S
  obtain ⟨-, ⟨cellB, hcB, hoB, hclB⟩, hPc⟩ := hp
  intro T hT X
  rcases vx_callV X hx (C := C) (bytes := bytes) (maxL := maxL) (ret := ret) ho hl hin hse hcode hy hK (by rw [hT]; exact hcB) hoB hclB hg (hsize.trans hml.symm) (argsL := As) (rest := rest) (fun sig h => hn.trans (hlen sig h)) hstack hW (by rw [hb]; exact hdg)
    (fun vm₁ hW₁ => ⟨hf.1, hf.2, hPc (T.setVm vm₁) hT hW₁⟩) with ⟨v, vm₁, ⟨U', l2, c2, s2⟩, hW₁, X', ⟨g', mk, t, L, e1, e2, hq, h1, hL, h2, h3⟩, st⟩ | ⟨q, vm₁, ⟨U', l2, c2, s2⟩, hW₁, X', ⟨g', mk, t, L, E, ce, e1, e2, hq, hce, hcv, hcl, h1, hL, h2, h3⟩, st⟩
  · dsimp only [Pt.U, Pt.locs, Pt.cells, Pt.slots] at X' e1 e2 h1 h2 h3 st
    subst h1; subst h2; subst h3
    exact Or.inl ⟨v, (T.setVm vm₁).calling g' mk (Value.ref b :: As).toArray, t, U', L, hT, X', hL, e1, e2, hq, st⟩
  · dsimp only [Pt.U, Pt.locs, Pt.cells, Pt.slots] at X' e1 e2 h1 h2 h3 st hcl
    subst h1; subst h2; subst h3
    exact Or.inr ⟨q, (T.setVm vm₁).calling g' mk (Value.ref b :: As).toArray, t, U', L, E, ce, hT, X', hL, e1, e2, hq, hce, hcv, vx_cls hW₁ hcl, st⟩
theorem vx_runS (S : CallFix p m c cc nL s args Ts own) (hM : vx_Met l y ws rm Pc Qc XC mc ms free) (cw : CallB R s args own index y bytes maxL ret ws rm mc ms n ∧ (Cond.static y).before args s = true) (hp : PreS s H Pc As)
    (hg : g.method = m) (hn : As.length = n) (hsize : g.locals.size = nL) (hstack : g.stack = As.reverse ++ rest) (hW : 2 * g.monitorRoom + (rest.map fun v => v.category).sum ≤ 8) (hdg : decode cc g.pc = .ok (.invokestatic index, 3)) (hf : cells + mc ≤ R.cells ∧ slots + ms ≤ R.slots) :
    vx_Run p l e R s m args below meth c H locs cells slots mc ms g rest (Qc As.toArray) XC free := by
  have hK : vx_Back l R p e below s args y 3 8 (PreOf R mc ms Pc) (PostOf Qc mc ms free) (vx_Post XC mc ms free) := vx_callBack cw.1 hM hp.1
  obtain ⟨⟨-, -, -, -, -, -, hcode, hini, hy, hlen, hl⟩, hstt⟩ := cw
  obtain ⟨hx, hb, hml, ho, -⟩ := S
  intro T hT X
  rcases vx_callS X hx (bytes := bytes) (maxL := maxL) (ret := ret) ho hl hstt hini hcode hy hK hg (hsize.trans hml.symm) (argsL := As) (rest := rest) (fun sig h => hn.trans (hlen sig h)) hstack hW (by rw [hb]; exact hdg)
    (fun vm₁ hW₁ => ⟨hf.1, hf.2, hp.2 (T.setVm vm₁) hT hW₁⟩) with ⟨v, vm₁, ⟨U', l2, c2, s2⟩, hW₁, X', ⟨g', mk, t, L, e1, e2, hq, h1, hL, h2, h3⟩, st⟩ | ⟨q, vm₁, ⟨U', l2, c2, s2⟩, hW₁, X', ⟨g', mk, t, L, E, ce, e1, e2, hq, hce, hcv, hcl, h1, hL, h2, h3⟩, st⟩
  · dsimp only [Pt.U, Pt.locs, Pt.cells, Pt.slots] at X' e1 e2 h1 h2 h3 st
    subst h1; subst h2; subst h3
    exact Or.inl ⟨v, (T.setVm vm₁).calling g' mk As.toArray, t, U', L, hT, X', hL, e1, e2, hq, st⟩
  · dsimp only [Pt.U, Pt.locs, Pt.cells, Pt.slots] at X' e1 e2 h1 h2 h3 st hcl
    subst h1; subst h2; subst h3
    exact Or.inr ⟨q, (T.setVm vm₁).calling g' mk As.toArray, t, U', L, E, ce, hT, X', hL, e1, e2, hq, hce, hcv, vx_cls hW₁ hcl, st⟩
end Runs
section Rows
variable {p : Program} {l : Launch} {e : Env} {R : Room} {s : State} {m : MethodId} {args : Array Value} {below : List Frame} {meth : Method} {c : Code} {H : Heap} {locs : List Loc} {cells slots : Nat} {Q : State → Prop}
variable {mc ms : Nat} {free : Addr → Prop} {A0 A1 : Nat → Prop} {H0 : Heap} {a : Array Value} {pc : Nat} {ls : Array Slot} {st0 rest : List Value}
theorem vx_keep {st₀ t T' : State} {L : List Loc} (h0 : st₀.heap = H) (e1 : T'.heap = t.heap) (hS : va_S A0 H0 H locs) (hA : ∀ q, q < H.size → A1 q → A0 q) (hf : ∀ q, free q → A0 q) (hL : ∀ q ∈ L, free q.base) (hF : va_F A1 st₀ t) :
    H.size ≤ T'.heap.size ∧ (∀ q : Nat, q < H.size → ¬ A1 q → T'.heap[q]? = H[q]?) ∧ va_S A0 H0 T'.heap (locs ++ L) := by
  obtain ⟨hz, hk⟩ := hF
  rw [h0] at hz hk
  exact ⟨by rw [e1]; exact hz, fun q h1 h2 => by rw [e1]; exact hk q h1 h2,
    ⟨Nat.le_trans hS.1 (by rw [e1]; exact hz), fun q h1 h2 => by rw [e1, hk q (Nat.lt_of_lt_of_le h1 hS.1) (fun z => h2 (hA q (Nat.lt_of_lt_of_le h1 hS.1) z))]; exact hS.2.1 q h1 h2, fun q hq => by
      rcases List.mem_append.mp hq with h | h
      · exact hS.2.2 q h
      · exact hf _ (hL q h)⟩⟩
theorem vx_calli {S SX : Type} {post : Int32 → S → Prop} {px : SX → Prop} {B : S → State → Prop} {BX : String → SX → State → Prop} {AX : Nat → Prop} (hr : vx_Run p l e R s m args below meth c H locs cells slots mc ms (F0 m pc ls st0) rest (va_Qi post B A1 a) (vx_X px BX AX) free) (hS : va_S A0 H0 H locs) (hA : ∀ q, q < H.size → A1 q → A0 q) (hf : ∀ q, free q → A0 q) (hAX : ∀ q, q < H.size → AX q → A0 q)
    (kx : ∀ (E : String) (ce : Cell) (q9 : Addr) (u : SX) (t : State) (H1 : Heap) (locs1 : List Loc), t.heap = H1 → s.vm.Alike t.vm → px u → BX E u t → H.size ≤ H1.size → (∀ q : Nat, q < H.size → ¬ AX q → H1[q]? = H[q]?) → va_S A0 H0 H1 locs1 → H1[q9]? = some ce → ce.vm = .none → s.vm.findClass E = some ce.cls → vx_W p l e R s m args below meth c H1 locs1 (cells + mc) (slots + ms) Q (F0 m pc ls rest) q9)
    (kk : ∀ (r : Int32) (u : S) (t : State) (H1 : Heap) (locs1 : List Loc), t.heap = H1 → s.vm.Alike t.vm → post r u → B u t → H.size ≤ H1.size → (∀ q : Nat, q < H.size → ¬ A1 q → H1[q]? = H[q]?) → va_S A0 H0 H1 locs1 → W p l e R s m args below meth c H1 locs1 (cells + mc) (slots + ms) Q (F0 m (pc + 3) ls (.int r :: rest))) : W p l e R s m args below meth c H locs cells slots Q (F0 m pc ls st0) := by
  intro T hT X
  rcases hr T hT X with ⟨v, st₀, t, T', L, h0, X', hL, e1, e2, ⟨⟨r, u, hv, hp, hb⟩, hF⟩, st⟩ | ⟨q, st₀, t, T', L, E, ce, h0, X', hL, e1, e2, ⟨u, hp, hb, hF⟩, hce, hcv, hcl, st⟩
  · cases hv
    obtain ⟨k1, k2, k3⟩ := vx_keep h0 e1 hS hA hf hL hF
    obtain ⟨t2, a1, b1⟩ := kk r u t T'.heap (locs ++ L) e1.symm (by rw [← e2]; exact X'.warmed.alike) hp hb k1 k2 k3 T' rfl X'
    exact ⟨t2, st t2 a1, b1⟩
  · obtain ⟨k1, k2, k3⟩ := vx_keep h0 e1 hS hAX hf hL hF
    obtain ⟨t2, a1, b1⟩ := kx E ce q u t T'.heap (locs ++ L) e1.symm (by rw [← e2]; exact X'.warmed.alike) hp hb k1 k2 k3 (by rw [e1]; exact hce) hcv hcl T' rfl X'
    exact ⟨t2, st.trans a1, b1⟩
theorem vx_calll {S SX : Type} {post : Int64 → S → Prop} {px : SX → Prop} {B : S → State → Prop} {BX : String → SX → State → Prop} {AX : Nat → Prop} (hr : vx_Run p l e R s m args below meth c H locs cells slots mc ms (F0 m pc ls st0) rest (va_Ql post B A1 a) (vx_X px BX AX) free) (hS : va_S A0 H0 H locs) (hA : ∀ q, q < H.size → A1 q → A0 q) (hf : ∀ q, free q → A0 q) (hAX : ∀ q, q < H.size → AX q → A0 q)
    (kx : ∀ (E : String) (ce : Cell) (q9 : Addr) (u : SX) (t : State) (H1 : Heap) (locs1 : List Loc), t.heap = H1 → s.vm.Alike t.vm → px u → BX E u t → H.size ≤ H1.size → (∀ q : Nat, q < H.size → ¬ AX q → H1[q]? = H[q]?) → va_S A0 H0 H1 locs1 → H1[q9]? = some ce → ce.vm = .none → s.vm.findClass E = some ce.cls → vx_W p l e R s m args below meth c H1 locs1 (cells + mc) (slots + ms) Q (F0 m pc ls rest) q9)
    (kk : ∀ (r : Int64) (u : S) (t : State) (H1 : Heap) (locs1 : List Loc), t.heap = H1 → s.vm.Alike t.vm → post r u → B u t → H.size ≤ H1.size → (∀ q : Nat, q < H.size → ¬ A1 q → H1[q]? = H[q]?) → va_S A0 H0 H1 locs1 → W p l e R s m args below meth c H1 locs1 (cells + mc) (slots + ms) Q (F0 m (pc + 3) ls (.long r :: rest))) : W p l e R s m args below meth c H locs cells slots Q (F0 m pc ls st0) := by
  intro T hT X
  rcases hr T hT X with ⟨v, st₀, t, T', L, h0, X', hL, e1, e2, ⟨⟨r, u, hv, hp, hb⟩, hF⟩, st⟩ | ⟨q, st₀, t, T', L, E, ce, h0, X', hL, e1, e2, ⟨u, hp, hb, hF⟩, hce, hcv, hcl, st⟩
  · cases hv
    obtain ⟨k1, k2, k3⟩ := vx_keep h0 e1 hS hA hf hL hF
    obtain ⟨t2, a1, b1⟩ := kk r u t T'.heap (locs ++ L) e1.symm (by rw [← e2]; exact X'.warmed.alike) hp hb k1 k2 k3 T' rfl X'
    exact ⟨t2, st t2 a1, b1⟩
  · obtain ⟨k1, k2, k3⟩ := vx_keep h0 e1 hS hAX hf hL hF
    obtain ⟨t2, a1, b1⟩ := kx E ce q u t T'.heap (locs ++ L) e1.symm (by rw [← e2]; exact X'.warmed.alike) hp hb k1 k2 k3 (by rw [e1]; exact hce) hcv hcl T' rfl X'
    exact ⟨t2, st.trans a1, b1⟩
theorem vx_callf {S SX : Type} {post : UInt32 → S → Prop} {px : SX → Prop} {B : S → State → Prop} {BX : String → SX → State → Prop} {AX : Nat → Prop} (hr : vx_Run p l e R s m args below meth c H locs cells slots mc ms (F0 m pc ls st0) rest (va_Qf post B A1 a) (vx_X px BX AX) free) (hS : va_S A0 H0 H locs) (hA : ∀ q, q < H.size → A1 q → A0 q) (hf : ∀ q, free q → A0 q) (hAX : ∀ q, q < H.size → AX q → A0 q)
    (kx : ∀ (E : String) (ce : Cell) (q9 : Addr) (u : SX) (t : State) (H1 : Heap) (locs1 : List Loc), t.heap = H1 → s.vm.Alike t.vm → px u → BX E u t → H.size ≤ H1.size → (∀ q : Nat, q < H.size → ¬ AX q → H1[q]? = H[q]?) → va_S A0 H0 H1 locs1 → H1[q9]? = some ce → ce.vm = .none → s.vm.findClass E = some ce.cls → vx_W p l e R s m args below meth c H1 locs1 (cells + mc) (slots + ms) Q (F0 m pc ls rest) q9)
    (kk : ∀ (r : UInt32) (u : S) (t : State) (H1 : Heap) (locs1 : List Loc), t.heap = H1 → s.vm.Alike t.vm → post r u → B u t → H.size ≤ H1.size → (∀ q : Nat, q < H.size → ¬ A1 q → H1[q]? = H[q]?) → va_S A0 H0 H1 locs1 → W p l e R s m args below meth c H1 locs1 (cells + mc) (slots + ms) Q (F0 m (pc + 3) ls (.float r :: rest))) : W p l e R s m args below meth c H locs cells slots Q (F0 m pc ls st0) := by
  intro T hT X
  rcases hr T hT X with ⟨v, st₀, t, T', L, h0, X', hL, e1, e2, ⟨⟨r, u, hv, hp, hb⟩, hF⟩, st⟩ | ⟨q, st₀, t, T', L, E, ce, h0, X', hL, e1, e2, ⟨u, hp, hb, hF⟩, hce, hcv, hcl, st⟩
  · cases hv
    obtain ⟨k1, k2, k3⟩ := vx_keep h0 e1 hS hA hf hL hF
    obtain ⟨t2, a1, b1⟩ := kk r u t T'.heap (locs ++ L) e1.symm (by rw [← e2]; exact X'.warmed.alike) hp hb k1 k2 k3 T' rfl X'
    exact ⟨t2, st t2 a1, b1⟩
  · obtain ⟨k1, k2, k3⟩ := vx_keep h0 e1 hS hAX hf hL hF
    obtain ⟨t2, a1, b1⟩ := kx E ce q u t T'.heap (locs ++ L) e1.symm (by rw [← e2]; exact X'.warmed.alike) hp hb k1 k2 k3 (by rw [e1]; exact hce) hcv hcl T' rfl X'
    exact ⟨t2, st.trans a1, b1⟩
theorem vx_calld {S SX : Type} {post : UInt64 → S → Prop} {px : SX → Prop} {B : S → State → Prop} {BX : String → SX → State → Prop} {AX : Nat → Prop} (hr : vx_Run p l e R s m args below meth c H locs cells slots mc ms (F0 m pc ls st0) rest (va_Qd post B A1 a) (vx_X px BX AX) free) (hS : va_S A0 H0 H locs) (hA : ∀ q, q < H.size → A1 q → A0 q) (hf : ∀ q, free q → A0 q) (hAX : ∀ q, q < H.size → AX q → A0 q)
    (kx : ∀ (E : String) (ce : Cell) (q9 : Addr) (u : SX) (t : State) (H1 : Heap) (locs1 : List Loc), t.heap = H1 → s.vm.Alike t.vm → px u → BX E u t → H.size ≤ H1.size → (∀ q : Nat, q < H.size → ¬ AX q → H1[q]? = H[q]?) → va_S A0 H0 H1 locs1 → H1[q9]? = some ce → ce.vm = .none → s.vm.findClass E = some ce.cls → vx_W p l e R s m args below meth c H1 locs1 (cells + mc) (slots + ms) Q (F0 m pc ls rest) q9)
    (kk : ∀ (r : UInt64) (u : S) (t : State) (H1 : Heap) (locs1 : List Loc), t.heap = H1 → s.vm.Alike t.vm → post r u → B u t → H.size ≤ H1.size → (∀ q : Nat, q < H.size → ¬ A1 q → H1[q]? = H[q]?) → va_S A0 H0 H1 locs1 → W p l e R s m args below meth c H1 locs1 (cells + mc) (slots + ms) Q (F0 m (pc + 3) ls (.double r :: rest))) : W p l e R s m args below meth c H locs cells slots Q (F0 m pc ls st0) := by
  intro T hT X
  rcases hr T hT X with ⟨v, st₀, t, T', L, h0, X', hL, e1, e2, ⟨⟨r, u, hv, hp, hb⟩, hF⟩, st⟩ | ⟨q, st₀, t, T', L, E, ce, h0, X', hL, e1, e2, ⟨u, hp, hb, hF⟩, hce, hcv, hcl, st⟩
  · cases hv
    obtain ⟨k1, k2, k3⟩ := vx_keep h0 e1 hS hA hf hL hF
    obtain ⟨t2, a1, b1⟩ := kk r u t T'.heap (locs ++ L) e1.symm (by rw [← e2]; exact X'.warmed.alike) hp hb k1 k2 k3 T' rfl X'
    exact ⟨t2, st t2 a1, b1⟩
  · obtain ⟨k1, k2, k3⟩ := vx_keep h0 e1 hS hAX hf hL hF
    obtain ⟨t2, a1, b1⟩ := kx E ce q u t T'.heap (locs ++ L) e1.symm (by rw [← e2]; exact X'.warmed.alike) hp hb k1 k2 k3 (by rw [e1]; exact hce) hcv hcl T' rfl X'
    exact ⟨t2, st.trans a1, b1⟩
theorem vx_callv {S SX : Type} {post : S → Prop} {px : SX → Prop} {B : S → State → Prop} {BX : String → SX → State → Prop} {AX : Nat → Prop} (hr : vx_Run p l e R s m args below meth c H locs cells slots mc ms (F0 m pc ls st0) rest (va_Qv post B A1 a) (vx_X px BX AX) free) (hS : va_S A0 H0 H locs) (hA : ∀ q, q < H.size → A1 q → A0 q) (hf : ∀ q, free q → A0 q) (hAX : ∀ q, q < H.size → AX q → A0 q)
    (kx : ∀ (E : String) (ce : Cell) (q9 : Addr) (u : SX) (t : State) (H1 : Heap) (locs1 : List Loc), t.heap = H1 → s.vm.Alike t.vm → px u → BX E u t → H.size ≤ H1.size → (∀ q : Nat, q < H.size → ¬ AX q → H1[q]? = H[q]?) → va_S A0 H0 H1 locs1 → H1[q9]? = some ce → ce.vm = .none → s.vm.findClass E = some ce.cls → vx_W p l e R s m args below meth c H1 locs1 (cells + mc) (slots + ms) Q (F0 m pc ls rest) q9)
    (kk : ∀ (u : S) (t : State) (H1 : Heap) (locs1 : List Loc), t.heap = H1 → s.vm.Alike t.vm → post u → B u t → H.size ≤ H1.size → (∀ q : Nat, q < H.size → ¬ A1 q → H1[q]? = H[q]?) → va_S A0 H0 H1 locs1 → W p l e R s m args below meth c H1 locs1 (cells + mc) (slots + ms) Q (F0 m (pc + 3) ls (rest))) : W p l e R s m args below meth c H locs cells slots Q (F0 m pc ls st0) := by
  intro T hT X
  rcases hr T hT X with ⟨v, st₀, t, T', L, h0, X', hL, e1, e2, ⟨⟨u, hv, hp, hb⟩, hF⟩, st⟩ | ⟨q, st₀, t, T', L, E, ce, h0, X', hL, e1, e2, ⟨u, hp, hb, hF⟩, hce, hcv, hcl, st⟩
  · cases hv
    obtain ⟨k1, k2, k3⟩ := vx_keep h0 e1 hS hA hf hL hF
    obtain ⟨t2, a1, b1⟩ := kk u t T'.heap (locs ++ L) e1.symm (by rw [← e2]; exact X'.warmed.alike) hp hb k1 k2 k3 T' rfl X'
    exact ⟨t2, st t2 a1, b1⟩
  · obtain ⟨k1, k2, k3⟩ := vx_keep h0 e1 hS hAX hf hL hF
    obtain ⟨t2, a1, b1⟩ := kx E ce q u t T'.heap (locs ++ L) e1.symm (by rw [← e2]; exact X'.warmed.alike) hp hb k1 k2 k3 (by rw [e1]; exact hce) hcv hcl T' rfl X'
    exact ⟨t2, st.trans a1, b1⟩
/-- caught by the row x of this method's table; the rows ahead don't take it -/
theorem vx_catch {own name : String} {E : String} {ce : Cell} {q : Addr} (hown : s.vm.findClass own = some m.cls) (pre : List ExceptionTableEntry) (x : ExceptionTableEntry) (suf : List ExceptionTableEntry) (hsplit : c.exceptionTable.toList = pre ++ x :: suf)
    (hpass : ∀ z ∈ pre, covers z pc = false ∨ (z.catchType ≠ 0 ∧ ∃ nm : String, (Cond.classLink own z.catchType nm).before args s = true ∧ va_Nc E nm s)) (hx : covers x pc = true) (h0 : x.catchType ≠ 0)
    (hlink : (Cond.classLink own x.catchType name).before args s = true) (hcast : (Cond.castable E name).before args s = true) (hcell : H[q]? = some ce) (hv : ce.vm = .none) (hcl : s.vm.findClass E = some ce.cls)
    (kk : W p l e R s m args below meth c H locs cells slots Q (F0 m x.handlerPc ls [.ref q])) : vx_W p l e R s m args below meth c H locs cells slots Q (F0 m pc ls rest) q := by
  intro T hT X
  have hpl : e.platform.magicAccessors = ({} : Platform).magicAccessors := by rw [X.admits.platform]
  obtain ⟨c3, c4, hc3, hc4, hasg⟩ := Cond.castable_spec hcast
  cases Option.some.inj (hc3.symm.trans hcl)
  obtain ⟨c5, hc5, hcl5⟩ := Cond.classLink_spec hown hlink e.platform hpl
  cases Option.some.inj (hc4.symm.trans hc5)
  obtain ⟨vm', X', st⟩ := X.thenCaughtThrough q (g := F0 m pc ls rest) rfl (Steps.refl _) (by rw [hT]; exact hcell) (by rw [hv]; rfl) (by obtain ⟨k9, h9, -⟩ := Vm.findClass_spec hcl; exact ⟨k9, h9⟩) pre x suf hsplit
    (fun z hz => by
      rcases hpass z hz with h | ⟨hz0, nm, hl1, hn1⟩
      · exact Or.inl h
      · obtain ⟨c6, hc6, hcl6⟩ := Cond.classLink_spec hown hl1 e.platform hpl
        obtain ⟨a8, b8, h1, h2, h3⟩ := hn1
        cases Option.some.inj (h1.symm.trans hcl)
        cases Option.some.inj (h2.symm.trans hc6)
        exact Or.inr ⟨hz0, _, hcl6, h3⟩) hx (Or.inr ⟨h0, c4, hcl5, hasg⟩)
  obtain ⟨t, a1, b1⟩ := kk (T.setVm vm') hT X'
  exact ⟨t, st.trans a1, b1⟩
end Rows
section Ends
variable {p : Program} {l : Launch} {e : Env} {R : Room} {s : State} {m : MethodId} {args : Array Value} {below : List Frame} {meth : Method} {c : Code} {H : Heap} {locs : List Loc} {cells slots : Nat} {Q : State → Prop}
variable {mc ms : Nat} {free : Addr → Prop} {A0 A1 : Nat → Prop} {H0 : Heap} {a : Array Value} {ls : Array Slot} {st0 rest : List Value}
variable {Qc : Array Value → State → Outcome → State → Prop} {XC : String → State → State → Prop}
/-- what a body that may throw owes at its end -/
def vx_MQ (below : List Frame) (Qc : Array Value → State → Outcome → State → Prop) (XC : String → State → State → Prop) (a : Array Value) (s : State) (mc ms : Nat) (free : Addr → Prop) : State → Prop := fun t =>
  ∃ o, t.status = .running ∧ Ended t below o ∧ vx_Q Qc XC mc ms free a s o t
theorem vx_ret {g : JFrame} {mc ms : Nat} (k : W p l e R s m args below meth c H locs cells slots (MQ below Qc args s mc ms free) g) : W p l e R s m args below meth c H locs cells slots (vx_MQ below Qc XC args s mc ms free) g := by
  intro T hT X
  obtain ⟨t, a1, o, b1, b2, b3, b4⟩ := k T hT X
  exact ⟨t, a1, o, b1, b2, Or.inl ⟨b3, b4⟩⟩
/-- not caught here: it goes on to the caller -/
theorem vx_widen {g : JFrame} {q : Addr} {k n : Nat} (h1 : cells ≤ k) (h2 : slots ≤ n) (kk : vx_W p l e R s m args below meth c H locs k n Q g q) : vx_W p l e R s m args below meth c H locs cells slots Q g q := fun T hT X => kk T hT (stand_widen X h1 h2)
theorem vx_out {pc : Nat} {E : String} {ce : Cell} {q : Addr} {mc ms : Nat} (hout : ∀ x ∈ c.exceptionTable.toList, covers x pc = false) (hlocks : meth.locks = false) (hcell : H[q]? = some ce) (hv : ce.vm = .none) (hcl : s.vm.findClass E = some ce.cls)
    (hx : ∀ t : State, t.heap = H → s.vm.Alike t.vm → XC E s t) (hf : ∀ z ∈ locs, free z.base) (hc : cells ≤ mc) (hs : slots ≤ ms) :
    vx_W p l e R s m args below meth c H locs cells slots (vx_MQ below Qc XC args s mc ms free) (F0 m pc ls rest) q := by
  intro T hT X
  obtain ⟨st1, hrun, hend, hW, hsm⟩ := X.leaveThrown q (g := F0 m pc ls rest) rfl rfl rfl hout hlocks
  have hcell9 : (T.setFrames (.throwing q :: below)).heap[q]? = some ce := by
    show T.heap[q]? = some ce
    rw [hT]; exact hcell
  exact ⟨_, st1, .threw q, hrun, hend, Or.inr ⟨q, rfl, E, ce, locs, hx _ hT hW.alike, hcell9, hv, hcl, hW, hsm.mono hc hs, hf⟩⟩
theorem vx_frame {U : State} {k n : Nat} (h : s.sameButNew ({ U with vm := s.vm } : State) locs k n) : s.heap.size ≤ U.heap.size ∧ ∀ q : Nat, q < s.heap.size → (∀ z ∈ locs, z.base ≠ q) → U.heap[q]? = s.heap[q]? := by
  obtain ⟨-, h2, -, -, -, h6⟩ := h
  refine ⟨h2, fun q hq hz => ?_⟩
  obtain ⟨c9, e1, e2, e3, e4⟩ := h6 q _ (Array.getElem?_eq_getElem hq)
  have hs : c9.slots = (s.heap[q]).slots := Array.ext_getElem? fun i => e4 i fun hm => hz _ hm rfl
  have h9 : c9 = s.heap[q] := by
    rw [hs] at e2
    exact e2
  have e5 : U.heap[q]? = some c9 := e1
  rw [e5, h9, Array.getElem?_eq_getElem hq]
/-- the words of a throw but the four that speak of the heap -/
def vx_no (w : Cond) : Bool := decide (w ≠ .isRef (.static Bundle.tN "UNASSIGNED_STACK" Bundle.steD)) && decide (w ≠ .isRef (.static Bundle.tN "SUPPRESSED_SENTINEL" Bundle.listD)) && decide (w ≠ .laysStatic Bundle.tN "UNASSIGNED_STACK" Bundle.steD) && decide (w ≠ .laysStatic Bundle.tN "SUPPRESSED_SENTINEL" Bundle.listD)
def vx_at0 (own : String) (ic : Nat) (X : String) (names : List String) : List Cond := (Bundle.ownAtoms0 own ic X names).filter vx_no
def vx_atS (own : String) (ic : Nat) (X : String) (names : List String) : List Cond := (Bundle.ownAtoms own ic X names).filter vx_no
/-- a word that the tables alone decide, or a good one -/
def vx_ot (w : Cond) : Bool := w.onTables || goodWord w
theorem vx_ot_at {args a' : Array Value} {s U : State} {w : Cond} (hW : s.WarmedH U.vm) (hvm : s.vm = U.vm) (hg : vx_ot w = true) (h : w.before args s = true) : w.before a' U = true := by
  simp only [vx_ot, Bool.or_eq_true] at hg
  rcases hg with hg | hg
  · exact va_tabs hg hvm h
  · exact word_at hW (good_of_word hg) h
/-- a list's words: the good ones out of the method's own list, the others by premises of their own -/
theorem vx_hat {args : Array Value} {s : State} {L B : List Cond} (h1 : ∀ w ∈ L.filter goodWord, w.before args s = true) (h2 : ∀ w ∈ L.filter (fun w => !goodWord w), w ∈ B) (h3 : ∀ w ∈ B, w.before args s = true) : ∀ w ∈ L, w.before args s = true := by
  intro w hw
  by_cases g : goodWord w = true
  · exact h1 w (List.mem_filter.mpr ⟨hw, g⟩)
  · refine h3 w (h2 w (List.mem_filter.mpr ⟨hw, ?_⟩))
    show (!goodWord w) = true
    cases hgw : goodWord w
    · rfl
    · exact absurd hgw g
theorem vx_c {args : Array Value} {s : State} {w : Cond} {B : List Cond} (h : w.before args s = true) (t : ∀ w ∈ B, w.before args s = true) : ∀ w' ∈ w :: B, w'.before args s = true := fun w' h' => (List.mem_cons.mp h').elim (fun e => by rw [e]; exact h) (t w')
theorem vx_n {args : Array Value} {s : State} : ∀ w ∈ ([] : List Cond), w.before args s = true := fun _ h => nomatch h
theorem vx_own {args : Array Value} {s : State} {L : List Cond} (h1 : ∀ w ∈ L.filter vx_no, w.before args s = true)
    (hU : (Cond.isRef (.static Bundle.tN "UNASSIGNED_STACK" Bundle.steD)).before args s = true) (hN : (Cond.isRef (.static Bundle.tN "SUPPRESSED_SENTINEL" Bundle.listD)).before args s = true)
    (lU : (Cond.laysStatic Bundle.tN "UNASSIGNED_STACK" Bundle.steD).before args s = true) (lN : (Cond.laysStatic Bundle.tN "SUPPRESSED_SENTINEL" Bundle.listD).before args s = true) : ∀ w ∈ L, w.before args s = true := by
  intro w hw
  by_cases e1 : w = .isRef (.static Bundle.tN "UNASSIGNED_STACK" Bundle.steD)
  · rw [e1]; exact hU
  · by_cases e2 : w = .isRef (.static Bundle.tN "SUPPRESSED_SENTINEL" Bundle.listD)
    · rw [e2]; exact hN
    · by_cases e3 : w = .laysStatic Bundle.tN "UNASSIGNED_STACK" Bundle.steD
      · rw [e3]; exact lU
      · by_cases e4 : w = .laysStatic Bundle.tN "SUPPRESSED_SENTINEL" Bundle.listD
        · rw [e4]; exact lN
        · exact h1 w (List.mem_filter.mpr ⟨hw, by unfold vx_no; rw [decide_eq_true e1, decide_eq_true e2, decide_eq_true e3, decide_eq_true e4]; rfl⟩)
/-- where a static field lies, its class's statics cell in H -/
def vx_L (C n d : String) (A : Nat → Prop) (U : State) (H : Heap) : Prop := ∃ (c : ClassId) (k : Class) (i : Nat) (f : Field) (a : Nat) (cell : Cell), U.vm.findClass C = some c ∧ U.fieldFound? C n d = some (c, k, i, f) ∧ f.isStatic = true ∧ k.statics = some a ∧ H[a]? = some cell ∧ cell.vm.isStatics = true ∧ cell.cls = c ∧ f.slot < cell.slots.size ∧ k.staticTypes[f.slot]? = some f.type ∧ ¬ A a
theorem vx_L.moved {C n d : String} {A : Nat → Prop} {u U : State} {H : Heap} (hvm : u.vm.Alike U.vm) (h : vx_L C n d A u H) : vx_L C n d A U H := by
  obtain ⟨c, k, i, f, a, cell, h1, h2, h3, h4, h5, h6, h7, h8, h9, h10⟩ := h
  obtain ⟨k', hi', he⟩ := State.fieldFound?_setVm hvm h2
  exact ⟨c, k', i, f, a, cell, by rw [hvm.findClass]; exact h1, hi', h3, by rw [he]; exact h4, h5, h6, h7, h8, by rw [he]; exact h9, h10⟩
theorem vx_L.kept {C n d : String} {A : Nat → Prop} {U : State} {H H1 : Heap} (h : vx_L C n d A U H) (hq : ∀ a : Nat, a < H.size → ¬ A a → H1[a]? = H[a]?) : vx_L C n d A U H1 := by
  obtain ⟨c, k, i, f, a, cell, h1, h2, h3, h4, h5, h6, h7, h8, h9, h10⟩ := h
  exact ⟨c, k, i, f, a, cell, h1, h2, h3, h4, by rw [hq a (Array.getElem?_eq_some_iff.mp h5).1 h10]; exact h5, h6, h7, h8, h9, h10⟩
theorem vx_L.narrow {C n d : String} {A B : Nat → Prop} {U : State} {H : Heap} (h : vx_L C n d A U H) (hAB : ∀ q, B q → A q) : vx_L C n d B U H := by
  obtain ⟨c, k, i, f, a, cell, h1, h2, h3, h4, h5, h6, h7, h8, h9, h10⟩ := h
  exact ⟨c, k, i, f, a, cell, h1, h2, h3, h4, h5, h6, h7, h8, h9, fun z => h10 (hAB _ z)⟩
theorem vx_L.word {C n d : String} {A : Nat → Prop} {s : State} {args : Array Value} (h : vx_L C n d A s s.heap) : (Cond.laysStatic C n d).before args s = true := by
  obtain ⟨c, k, i, f, a, cell, h1, h2, h3, h4, h5, h6, h7, h8, h9, -⟩ := h
  show (Cond.laysStatic C n d).holds args s none s [] = true
  exact Cond.laysStatic_of h1 h2 h3 h4 h5 h6 h7 h8 h9
/-- .. and what it holds: null or some reference -/
def vx_Zq (C n d : String) (A : Nat → Prop) (U : State) (H : Heap) : Prop := va_Zq C n d A U H ∧ vx_L C n d A U H
theorem vx_Zq.moved {C n d : String} {A : Nat → Prop} {u U : State} {H : Heap} (hvm : u.vm.Alike U.vm) (h : vx_Zq C n d A u H) : vx_Zq C n d A U H := ⟨va_Zq.moved hvm h.1, vx_L.moved hvm h.2⟩
theorem vx_Zq.kept {C n d : String} {A : Nat → Prop} {U : State} {H H1 : Heap} (h : vx_Zq C n d A U H) (hq : ∀ a : Nat, a < H.size → ¬ A a → H1[a]? = H[a]?) : vx_Zq C n d A U H1 := ⟨va_Zq.kept h.1 hq, vx_L.kept h.2 hq⟩
theorem vx_Zq.narrow {C n d : String} {A B : Nat → Prop} {U : State} {H : Heap} (h : vx_Zq C n d A U H) (hAB : ∀ q, B q → A q) : vx_Zq C n d B U H := ⟨va_Zq.narrow h.1 hAB, vx_L.narrow h.2 hAB⟩
theorem vx_Zqof {args : Array Value} {s : State} {C n d : String} {A : Nat → Prop} (hl : (Cond.laysStatic C n d).before args s = true) (hini : (Cond.initialized C).before args s = true) (h : (Cond.isRef (.static C n d)).before args s = true) (hA : ∀ a : Nat, a < s.heap.size → ¬ A a) : vx_Zq C n d A s s.heap := by
  refine ⟨va_Zqof hl hini h hA, ?_⟩
  obtain ⟨c, k, i, f, a, cell, h1, h2, h3, h4, h5, h6, h7, h8, h9⟩ := Cond.laysStatic_spec hl
  exact ⟨c, k, i, f, a, cell, h1, h2, h3, h4, h5, h6, h7, h8, h9, hA a (Array.getElem?_eq_some_iff.mp h5).1⟩
theorem vx_isRef {C n d : String} {v : Value} {A : Nat → Prop} {s : State} {args : Array Value} (h : va_Z C n d v A s s.heap) (hv : v.isRef = true) : (Cond.isRef (.static C n d)).before args s = true := by
  obtain ⟨cf, kf, fi, f, a, cell, h1, h2, h3, h4, h5, h6, h7, -⟩ := h
  have he : (Term.static C n d).eval args s none [] s = some v := by
    simp [Term.eval, State.fieldNamed?, h1, h2, h4, h5, h6, h7]
  simp only [Cond.before, Cond.holds, Cond.value, he]
  cases v <;> simp_all [Value.isRef]
theorem vx_isRefq {C n d : String} {A : Nat → Prop} {s : State} {args : Array Value} (h : va_Zq C n d A s s.heap) : (Cond.isRef (.static C n d)).before args s = true := by
  rcases h with h | ⟨t, h⟩
  · exact vx_isRef h rfl
  · exact vx_isRef h rfl
/-- the same frame, seen from here: as if the method were called anew in this heap -/
theorem vx_rebase {T : State} (X : Stand p l e R s m args below meth c T locs cells slots) {R' : Room} (hf : R'.frames ≤ R.frames) (hl : R'.locals ≤ R.locals) (hc : cells + R'.cells ≤ R.cells) (hs : slots + R'.slots ≤ R.slots) :
    Stand p l e R' ((T.setVm s.vm).setFrames (.invoking m args :: below)) m args below meth c T [] 0 0 := by
  have htop : (T.setVm s.vm).topJava?.isSome := X.here.top
  have hF : ((T.setVm s.vm).setFrames (.invoking m args :: below)).frames = .invoking m args :: below := State.frames_setFrames _ (State.cur_lt_of_top htop)
  obtain ⟨g₀, hg0⟩ := Option.isSome_iff_exists.mp htop
  obtain ⟨r, hr⟩ := State.topJava?_eq_some.mp hg0
  have hl9 : e.platform.stackLimits (T.setVm s.vm).me = e.platform.stackLimits s.me := X.limits
  have hb9 : (T.setVm s.vm).me.stackBytes = s.me.stackBytes := X.bytes
  refine ⟨X.admits, X.cas, X.clock, hF, ?_, X.hears, X.method, X.code, X.here, X.tail, X.warmed, ?_, ?_, ?_⟩
  · have h := X.room
    have hU : ((T.setVm s.vm).setFrames (.invoking m args :: below)).localsInUse = s.localsInUse := by
      rw [State.localsInUse_invoking hF (meth := meth) (c := c) X.method X.code, State.localsInUse_invoking X.frames X.method X.code]
    simp only [State.hasRoom, Bool.and_eq_true, decide_eq_true_eq] at h ⊢
    obtain ⟨⟨⟨⟨h1, h2, h3, h4, h5, h6⟩, h7⟩, h8⟩, h9⟩ := h
    rw [X.frames, List.length_cons] at h2 h3
    have q1 := X.heapSize
    have q2 := X.used
    simp only [hF, hU, List.length_cons, State.stackLimits_setFrames, State.stackBytes_setFrames, hl9, hb9]
    refine ⟨⟨⟨⟨by omega, by omega, by omega, by omega, by omega, h6⟩, ?_⟩, ?_⟩, X.book⟩
    · show T.heap.size + R'.cells ≤ e.platform.maxCells
      omega
    · show T.slotsUsed + R'.slots ≤ e.platform.maxSlots
      omega
  · rw [State.stackLimits_setFrames]; rfl
  · rw [State.stackBytes_setFrames]; rfl
  · refine ⟨?_, Nat.le_refl _, Nat.le_refl _, ?_, ?_, fun a c9 h9 => ⟨c9, h9, rfl, rfl, fun _ _ => rfl⟩⟩
    · obtain ⟨t, ht, -⟩ := State.frames_cons hr
      show T.setVm s.vm = { ((T.setVm s.vm).setFrames (.invoking m args :: below)).setFrames (T.setVm s.vm).frames with heap := T.heap, slotsUsed := T.slotsUsed }
      rw [State.setFrames_setFrames, State.setFrames_self ht]
      rfl
    · show T.slotsUsed = T.slotsUsed + ((T.heap.toList.drop T.heap.size).map (·.slots.size)).sum
      rw [List.drop_eq_nil_of_le (Nat.le_of_eq Array.length_toList)]
      rfl
    · show ((T.heap.toList.drop T.heap.size).map (·.slots.size)).sum ≤ 0
      rw [List.drop_eq_nil_of_le (Nat.le_of_eq Array.length_toList)]
      exact Nat.le_refl _
/-- 'throw new E()': new; dup; invokespecial; athrow -/
theorem vx_throw0 {cc : ByteArray} {pc : Nat} (hexec : p.tables.exec = Jvm.exec) (hb : c.code = cc) (hl : l.stackTraces = false) {own cls : String} {names : List String} {ik ic mc ms : Nat} {A : Nat → Prop}
    (hown : s.vm.findClass own = some m.cls) (hcls : Bundle.fit cls = true) (hnames : ∀ n ∈ names, Bundle.fit n = true)
    (hk : (Cond.classLink own ik cls).before args s = true) (hini : (Cond.initialized cls).before args s = true) (hat : ∀ w ∈ vx_at0 own ic cls names, w.before args s = true)
    (hgood : ∀ w ∈ Cond.classLink own ik cls :: Cond.initialized cls :: vx_at0 own ic cls names, vx_ot w = true)
    (hU : vx_Zq Bundle.tN "UNASSIGNED_STACK" Bundle.steD A s s.heap) (hN : vx_Zq Bundle.tN "SUPPRESSED_SENTINEL" Bundle.listD A s s.heap) (hS : va_S A s.heap H locs) (hsize : ls.size = c.maxLocals)
    (d0 : decode cc pc = .ok (.new ik, 3)) (d3 : decode cc (pc + 3) = .ok (.dup, 1)) (d4 : decode cc (pc + 4) = .ok (.invokespecial ic, 3)) (d7 : decode cc (pc + 7) = .ok (.athrow, 1))
    (hout : ∀ x ∈ c.exceptionTable.toList, covers x (pc + 7) = false)
    (hRframes : names.length + 3 < R.frames) (hRlocals : (rest.map fun v => v.category).sum + (13 * (names.length + 1) + 42) ≤ R.locals) (hRcells : cells + 1 ≤ R.cells) (hRslots : slots + 6 ≤ R.slots) (hlocks : meth.locks = false)
    (hx : ∀ t : State, s.vm.Alike t.vm → H.size ≤ t.heap.size → (∀ q : Nat, q < H.size → t.heap[q]? = H[q]?) → XC cls s t)
    (hf : ∀ z ∈ locs, free z.base) (hc : cells + 1 ≤ mc) (hs : slots + 6 ≤ ms) :
    W p l e R s m args below meth c H locs cells slots (vx_MQ below Qc XC args s mc ms free) (F0 m pc ls rest) := by
  intro T hT X
  have htr : e.platform.stackTraces = false := (show e.platform.stackTraces = l.stackTraces by rw [X.admits.platform]).trans hl
  have Y := vx_rebase X (R' := { frames := R.frames, locals := R.locals, cells := 1, slots := 6 }) (Nat.le_refl _) (Nat.le_refl _) hRcells hRslots
  obtain ⟨s', hA⟩ : ∃ z, z = (T.setVm s.vm).setFrames (.invoking m args :: below) := ⟨_, rfl⟩
  rw [← hA] at Y
  have hvm : s'.vm = s.vm := by rw [hA]; rfl
  have hhp : s'.heap = H := by rw [hA]; exact hT
  have hW0 : s.WarmedH s'.vm := by rw [hvm]; exact State.WarmedH.refl s
  have hat' : ∀ w ∈ vx_at0 own ic cls names, w.before args s' = true := fun w hw => vx_ot_at hW0 hvm.symm (hgood w (List.mem_cons_of_mem _ (List.mem_cons_of_mem _ hw))) (hat w hw)
  have hk' : (Cond.classLink own ik cls).before args s' = true := vx_ot_at hW0 hvm.symm (hgood _ List.mem_cons_self) hk
  have hini' : (Cond.initialized cls).before args s' = true := vx_ot_at hW0 hvm.symm (hgood _ (List.mem_cons_of_mem _ List.mem_cons_self)) hini
  have hU' : vx_Zq Bundle.tN "UNASSIGNED_STACK" Bundle.steD A s' s'.heap := by rw [hhp]; exact vx_Zq.moved hW0.alike (hU.kept hS.2.1)
  have hN' : vx_Zq Bundle.tN "SUPPRESSED_SENTINEL" Bundle.listD A s' s'.heap := by rw [hhp]; exact vx_Zq.moved hW0.alike (hN.kept hS.2.1)
  have h : ∀ w ∈ Bundle.ownAtoms0 own ic cls names, w.before args s' = true := vx_own hat' (vx_isRefq hU'.1) (vx_isRefq hN'.1) hU'.2.word hN'.2.word
  have hown' : s'.vm.findClass own = some m.cls := by rw [hvm]; exact hown
  have hins : (Cond.instantiable cls 6).before args s' = true := h _ (by simp [Bundle.ownAtoms0])
  obtain ⟨vm₁, cX, kX, hfX, hkX, -, -, X₁, st1⟩ := Y.newCold hexec (own := own) (C := cls) (index := ik) (n := 6) hown' hk' hins hini'
    (g := F0 m pc ls rest) rfl (by rw [hb]; exact d0) (Nat.le_refl _) (Nat.le_refl _)
  generalize hT1 : (T.setVm vm₁).pushCell { cls := cX, slots := kX.instanceTypes.map defaultValue, vm := .none } = T1 at X₁ st1
  have hcat : (Value.ref T.heap.size).category = 1 := rfl
  have hcellA : T1.heap[T.heap.size]? = some (freshCell cX kX) := by rw [← hT1]; exact State.heap_pushCell_size _ _
  have d3' : decode c.code (pc + 3) = .ok (.dup, 1) := by rw [hb]; exact d3
  obtain ⟨U, hsteps, hrun, hend, hW, hsame, ce, hce, hO⟩ := X₁.ctorThrow0 hexec htr (own := own) (cls := cls) (names := names) (ic := ic) hown' hcls hnames h (fun x hx => nomatch hx) hfX hkX hcellA (by rw [hhp, hT]; exact Nat.le_refl _)
    (g := { method := m, pc := pc + 4, locals := ls, stack := .ref T.heap.size :: .ref T.heap.size :: rest, locked := none }) rfl hsize rfl rfl (rest := rest) rfl
    (by rw [hb]; exact d4) (by rw [hb]; exact d7) hout hRframes (by simp only [List.map_cons, List.sum_cons, hcat]; omega) hlocks
  obtain ⟨f1, f2⟩ := vx_frame hsame
  rw [hhp] at f1 f2
  have hWs : s.WarmedH U.vm := State.WarmedH.trans hW0 hW
  have hcl : s.vm.findClass cls = some ce.cls := by
    have h9 := hO.cls
    rw [hvm] at h9
    exact h9
  have hall : s.sameButNew ({ U with vm := s.vm } : State) locs mc ms := by
    subst hA
    obtain ⟨e1, e2⟩ := hsame
    rw [State.setFrames_setFrames] at e1
    have h2 : (T.setVm s.vm).sameButNew ({ U with vm := s.vm } : State) [] (0 + 1) (0 + 6) := ⟨e1, e2⟩
    have h3 := X.same.trans h2
    rw [List.append_nil] at h3
    exact h3.mono hc hs
  refine ⟨U, ?_, .threw T.heap.size, hrun, hend, Or.inr ⟨T.heap.size, rfl, cls, ce, locs, hx U hWs.alike f1 (fun q hq => f2 q hq (fun z hz => nomatch hz)), hce, hO.vm, hcl, hWs, hall, hf⟩⟩
  refine st1 _ ?_
  show Steps p.tables e below (T1.setTop { method := m, pc := pc + 3, locals := ls, stack := .ref T.heap.size :: rest, locked := none }) _
  jvm_step X₁.here [X₁.here.top, hexec, d3', Value.category]
  exact hsteps
/-- 'throw new E("text")': new; dup; ldc; invokespecial; athrow -/
theorem vx_throwS {cc : ByteArray} {pc : Nat} (hexec : p.tables.exec = Jvm.exec) (hb : c.code = cc) (hl : l.stackTraces = false) {own cls text : String} {names : List String} {ik is ic mc ms sa : Nat} {A : Nat → Prop}
    (hown : s.vm.findClass own = some m.cls) (hcls : Bundle.fit cls = true) (hnames : ∀ n ∈ names, Bundle.fit n = true)
    (hk : (Cond.classLink own ik cls).before args s = true) (hini : (Cond.initialized cls).before args s = true) (hstr : vk_R own is text sa s) (hat : ∀ w ∈ vx_atS own ic cls names, w.before args s = true)
    (hgood : ∀ w ∈ Cond.classLink own ik cls :: Cond.initialized cls :: vx_atS own ic cls names, vx_ot w = true)
    (hU : vx_Zq Bundle.tN "UNASSIGNED_STACK" Bundle.steD A s s.heap) (hN : vx_Zq Bundle.tN "SUPPRESSED_SENTINEL" Bundle.listD A s s.heap) (hS : va_S A s.heap H locs) (hsize : ls.size = c.maxLocals)
    (d0 : decode cc pc = .ok (.new ik, 3)) (d3 : decode cc (pc + 3) = .ok (.dup, 1)) (d4 : decode cc (pc + 4) = .ok (.ldc is, 2)) (d6 : decode cc (pc + 6) = .ok (.invokespecial ic, 3)) (d9 : decode cc (pc + 9) = .ok (.athrow, 1))
    (hout : ∀ x ∈ c.exceptionTable.toList, covers x (pc + 9) = false)
    (hRframes : names.length + 3 < R.frames) (hRlocals : (rest.map fun v => v.category).sum + (13 * (names.length + 1) + 43) ≤ R.locals) (hRcells : cells + 1 ≤ R.cells) (hRslots : slots + 6 ≤ R.slots) (hlocks : meth.locks = false)
    (hx : ∀ t : State, s.vm.Alike t.vm → H.size ≤ t.heap.size → (∀ q : Nat, q < H.size → t.heap[q]? = H[q]?) → XC cls s t)
    (hf : ∀ z ∈ locs, free z.base) (hc : cells + 1 ≤ mc) (hs : slots + 6 ≤ ms) :
    W p l e R s m args below meth c H locs cells slots (vx_MQ below Qc XC args s mc ms free) (F0 m pc ls rest) := by
  intro T hT X
  have htr : e.platform.stackTraces = false := (show e.platform.stackTraces = l.stackTraces by rw [X.admits.platform]).trans hl
  have Y := vx_rebase X (R' := { frames := R.frames, locals := R.locals, cells := 1, slots := 6 }) (Nat.le_refl _) (Nat.le_refl _) hRcells hRslots
  obtain ⟨s', hA⟩ : ∃ z, z = (T.setVm s.vm).setFrames (.invoking m args :: below) := ⟨_, rfl⟩
  rw [← hA] at Y
  have hvm : s'.vm = s.vm := by rw [hA]; rfl
  have hhp : s'.heap = H := by rw [hA]; exact hT
  have hW0 : s.WarmedH s'.vm := by rw [hvm]; exact State.WarmedH.refl s
  have hat' : ∀ w ∈ vx_atS own ic cls names, w.before args s' = true := fun w hw => vx_ot_at hW0 hvm.symm (hgood w (List.mem_cons_of_mem _ (List.mem_cons_of_mem _ hw))) (hat w hw)
  have hk' : (Cond.classLink own ik cls).before args s' = true := vx_ot_at hW0 hvm.symm (hgood _ List.mem_cons_self) hk
  have hini' : (Cond.initialized cls).before args s' = true := vx_ot_at hW0 hvm.symm (hgood _ (List.mem_cons_of_mem _ List.mem_cons_self)) hini
  have hU' : vx_Zq Bundle.tN "UNASSIGNED_STACK" Bundle.steD A s' s'.heap := by rw [hhp]; exact vx_Zq.moved hW0.alike (hU.kept hS.2.1)
  have hN' : vx_Zq Bundle.tN "SUPPRESSED_SENTINEL" Bundle.listD A s' s'.heap := by rw [hhp]; exact vx_Zq.moved hW0.alike (hN.kept hS.2.1)
  have h : ∀ w ∈ Bundle.ownAtoms own ic cls names, w.before args s' = true := vx_own hat' (vx_isRefq hU'.1) (vx_isRefq hN'.1) hU'.2.word hN'.2.word
  have hown' : s'.vm.findClass own = some m.cls := by rw [hvm]; exact hown
  have hins : (Cond.instantiable cls 6).before args s' = true := h _ (by simp [Bundle.ownAtoms])
  obtain ⟨vm₁, cX, kX, hfX, hkX, -, -, X₁, st1⟩ := Y.newCold hexec (own := own) (C := cls) (index := ik) (n := 6) hown' hk' hins hini'
    (g := F0 m pc ls rest) rfl (by rw [hb]; exact d0) (Nat.le_refl _) (Nat.le_refl _)
  generalize hT1 : (T.setVm vm₁).pushCell { cls := cX, slots := kX.instanceTypes.map defaultValue, vm := .none } = T1 at X₁ st1
  have hcat : (Value.ref T.heap.size).category = 1 := rfl
  have hcellA : T1.heap[T.heap.size]? = some (freshCell cX kX) := by rw [← hT1]; exact State.heap_pushCell_size _ _
  have d3' : decode c.code (pc + 3) = .ok (.dup, 1) := by rw [hb]; exact d3
  have d4' : decode c.code (pc + 4) = .ok (.ldc is, 2) := by rw [hb]; exact d4
  have hstr' : vk_R own is text sa s' := vk_R.warm hW0 hstr
  obtain ⟨U, hsteps, hrun, hend, hW, hsame, ce, hce, hO⟩ := X₁.ctorThrowS hexec htr (own := own) (cls := cls) (names := names) (ic := ic) hown' hcls hnames h (fun x hx => nomatch hx) hfX hkX hcellA (by rw [hhp, hT]; exact Nat.le_refl _) (msg := .ref sa) rfl
    (g := { method := m, pc := pc + 6, locals := ls, stack := .ref sa :: .ref T.heap.size :: .ref T.heap.size :: rest, locked := none }) rfl hsize rfl rfl (rest := rest) rfl
    (by rw [hb]; exact d6) (by rw [hb]; exact d9) hout hRframes (by simp only [List.map_cons, List.sum_cons, hcat]; omega) hlocks
  obtain ⟨f1, f2⟩ := vx_frame hsame
  rw [hhp] at f1 f2
  have hWs : s.WarmedH U.vm := State.WarmedH.trans hW0 hW
  have hcl : s.vm.findClass cls = some ce.cls := by
    have h9 := hO.cls
    rw [hvm] at h9
    exact h9
  have hall : s.sameButNew ({ U with vm := s.vm } : State) locs mc ms := by
    subst hA
    obtain ⟨e1, e2⟩ := hsame
    rw [State.setFrames_setFrames] at e1
    have h2 : (T.setVm s.vm).sameButNew ({ U with vm := s.vm } : State) [] (0 + 1) (0 + 6) := ⟨e1, e2⟩
    have h3 := X.same.trans h2
    rw [List.append_nil] at h3
    exact h3.mono hc hs
  refine ⟨U, ?_, .threw T.heap.size, hrun, hend, Or.inr ⟨T.heap.size, rfl, cls, ce, locs, hx U hWs.alike f1 (fun q hq => f2 q hq (fun z hz => nomatch hz)), hce, hO.vm, hcl, hWs, hall, hf⟩⟩
  refine st1 _ ?_
  show Steps p.tables e below (T1.setTop { method := m, pc := pc + 3, locals := ls, stack := .ref T.heap.size :: rest, locked := none }) _
  jvm_step X₁.here [X₁.here.top, hexec, d3', Value.category]
  exact X₁.ldcString hexec (own := own) (text := text) (index := is) (a := sa) hown' hstr'.1 hstr'.2
    (g := { method := m, pc := pc + 4, locals := ls, stack := .ref T.heap.size :: .ref T.heap.size :: rest, locked := none }) rfl d4' _ hsteps
/-- 'throw new E("text")', the text by a wide index -/
theorem vx_throwSW {cc : ByteArray} {pc : Nat} (hexec : p.tables.exec = Jvm.exec) (hb : c.code = cc) (hl : l.stackTraces = false) {own cls text : String} {names : List String} {ik is ic mc ms sa : Nat} {A : Nat → Prop}
    (hown : s.vm.findClass own = some m.cls) (hcls : Bundle.fit cls = true) (hnames : ∀ n ∈ names, Bundle.fit n = true)
    (hk : (Cond.classLink own ik cls).before args s = true) (hini : (Cond.initialized cls).before args s = true) (hstr : vk_R own is text sa s) (hat : ∀ w ∈ vx_atS own ic cls names, w.before args s = true)
    (hgood : ∀ w ∈ Cond.classLink own ik cls :: Cond.initialized cls :: vx_atS own ic cls names, vx_ot w = true)
    (hU : vx_Zq Bundle.tN "UNASSIGNED_STACK" Bundle.steD A s s.heap) (hN : vx_Zq Bundle.tN "SUPPRESSED_SENTINEL" Bundle.listD A s s.heap) (hS : va_S A s.heap H locs) (hsize : ls.size = c.maxLocals)
    (d0 : decode cc pc = .ok (.new ik, 3)) (d3 : decode cc (pc + 3) = .ok (.dup, 1)) (d4 : decode cc (pc + 4) = .ok (.ldc_w is, 3)) (d7 : decode cc (pc + 7) = .ok (.invokespecial ic, 3)) (d10 : decode cc (pc + 10) = .ok (.athrow, 1))
    (hout : ∀ x ∈ c.exceptionTable.toList, covers x (pc + 10) = false)
    (hRframes : names.length + 3 < R.frames) (hRlocals : (rest.map fun v => v.category).sum + (13 * (names.length + 1) + 43) ≤ R.locals) (hRcells : cells + 1 ≤ R.cells) (hRslots : slots + 6 ≤ R.slots) (hlocks : meth.locks = false)
    (hx : ∀ t : State, s.vm.Alike t.vm → H.size ≤ t.heap.size → (∀ q : Nat, q < H.size → t.heap[q]? = H[q]?) → XC cls s t)
    (hf : ∀ z ∈ locs, free z.base) (hc : cells + 1 ≤ mc) (hs : slots + 6 ≤ ms) :
    W p l e R s m args below meth c H locs cells slots (vx_MQ below Qc XC args s mc ms free) (F0 m pc ls rest) := by
  intro T hT X
  have htr : e.platform.stackTraces = false := (show e.platform.stackTraces = l.stackTraces by rw [X.admits.platform]).trans hl
  have Y := vx_rebase X (R' := { frames := R.frames, locals := R.locals, cells := 1, slots := 6 }) (Nat.le_refl _) (Nat.le_refl _) hRcells hRslots
  obtain ⟨s', hA⟩ : ∃ z, z = (T.setVm s.vm).setFrames (.invoking m args :: below) := ⟨_, rfl⟩
  rw [← hA] at Y
  have hvm : s'.vm = s.vm := by rw [hA]; rfl
  have hhp : s'.heap = H := by rw [hA]; exact hT
  have hW0 : s.WarmedH s'.vm := by rw [hvm]; exact State.WarmedH.refl s
  have hat' : ∀ w ∈ vx_atS own ic cls names, w.before args s' = true := fun w hw => vx_ot_at hW0 hvm.symm (hgood w (List.mem_cons_of_mem _ (List.mem_cons_of_mem _ hw))) (hat w hw)
  have hk' : (Cond.classLink own ik cls).before args s' = true := vx_ot_at hW0 hvm.symm (hgood _ List.mem_cons_self) hk
  have hini' : (Cond.initialized cls).before args s' = true := vx_ot_at hW0 hvm.symm (hgood _ (List.mem_cons_of_mem _ List.mem_cons_self)) hini
  have hU' : vx_Zq Bundle.tN "UNASSIGNED_STACK" Bundle.steD A s' s'.heap := by rw [hhp]; exact vx_Zq.moved hW0.alike (hU.kept hS.2.1)
  have hN' : vx_Zq Bundle.tN "SUPPRESSED_SENTINEL" Bundle.listD A s' s'.heap := by rw [hhp]; exact vx_Zq.moved hW0.alike (hN.kept hS.2.1)
  have h : ∀ w ∈ Bundle.ownAtoms own ic cls names, w.before args s' = true := vx_own hat' (vx_isRefq hU'.1) (vx_isRefq hN'.1) hU'.2.word hN'.2.word
  have hown' : s'.vm.findClass own = some m.cls := by rw [hvm]; exact hown
  have hins : (Cond.instantiable cls 6).before args s' = true := h _ (by simp [Bundle.ownAtoms])
  obtain ⟨vm₁, cX, kX, hfX, hkX, -, -, X₁, st1⟩ := Y.newCold hexec (own := own) (C := cls) (index := ik) (n := 6) hown' hk' hins hini'
    (g := F0 m pc ls rest) rfl (by rw [hb]; exact d0) (Nat.le_refl _) (Nat.le_refl _)
  generalize hT1 : (T.setVm vm₁).pushCell { cls := cX, slots := kX.instanceTypes.map defaultValue, vm := .none } = T1 at X₁ st1
  have hcat : (Value.ref T.heap.size).category = 1 := rfl
  have hcellA : T1.heap[T.heap.size]? = some (freshCell cX kX) := by rw [← hT1]; exact State.heap_pushCell_size _ _
  have d3' : decode c.code (pc + 3) = .ok (.dup, 1) := by rw [hb]; exact d3
  have d4' : decode c.code (pc + 4) = .ok (.ldc_w is, 3) := by rw [hb]; exact d4
  have hstr' : vk_R own is text sa s' := vk_R.warm hW0 hstr
  obtain ⟨U, hsteps, hrun, hend, hW, hsame, ce, hce, hO⟩ := X₁.ctorThrowS hexec htr (own := own) (cls := cls) (names := names) (ic := ic) hown' hcls hnames h (fun x hx => nomatch hx) hfX hkX hcellA (by rw [hhp, hT]; exact Nat.le_refl _) (msg := .ref sa) rfl
    (g := { method := m, pc := pc + 7, locals := ls, stack := .ref sa :: .ref T.heap.size :: .ref T.heap.size :: rest, locked := none }) rfl hsize rfl rfl (rest := rest) rfl
    (by rw [hb]; exact d7) (by rw [hb]; exact d10) hout hRframes (by simp only [List.map_cons, List.sum_cons, hcat]; omega) hlocks
  obtain ⟨f1, f2⟩ := vx_frame hsame
  rw [hhp] at f1 f2
  have hWs : s.WarmedH U.vm := State.WarmedH.trans hW0 hW
  have hcl : s.vm.findClass cls = some ce.cls := by
    have h9 := hO.cls
    rw [hvm] at h9
    exact h9
  have hall : s.sameButNew ({ U with vm := s.vm } : State) locs mc ms := by
    subst hA
    obtain ⟨e1, e2⟩ := hsame
    rw [State.setFrames_setFrames] at e1
    have h2 : (T.setVm s.vm).sameButNew ({ U with vm := s.vm } : State) [] (0 + 1) (0 + 6) := ⟨e1, e2⟩
    have h3 := X.same.trans h2
    rw [List.append_nil] at h3
    exact h3.mono hc hs
  refine ⟨U, ?_, .threw T.heap.size, hrun, hend, Or.inr ⟨T.heap.size, rfl, cls, ce, locs, hx U hWs.alike f1 (fun q hq => f2 q hq (fun z hz => nomatch hz)), hce, hO.vm, hcl, hWs, hall, hf⟩⟩
  refine st1 _ ?_
  show Steps p.tables e below (T1.setTop { method := m, pc := pc + 3, locals := ls, stack := .ref T.heap.size :: rest, locked := none }) _
  jvm_step X₁.here [X₁.here.top, hexec, d3', Value.category]
  exact X₁.ldcStringW hexec (own := own) (text := text) (index := is) (a := sa) hown' hstr'.1 hstr'.2
    (g := { method := m, pc := pc + 4, locals := ls, stack := .ref T.heap.size :: .ref T.heap.size :: rest, locked := none }) rfl d4' _ hsteps
end Ends
section Bodies
variable {l : Launch}
theorem vx_ofW {y : MethodName} {ws ws' : List Cond} {rm : Room} {Pc : Array Value → State → Prop} {Qc : Array Value → State → Outcome → State → Prop} {XC : String → State → State → Prop} {mc ms : Nat} {free : Addr → Prop} {cc : ByteArray} {maxL : Nat} {ret : Option FieldType}
    (hy : plainName y.cls = true) (hw : ws = Cond.code y cc maxL ret :: ws')
    (body : ∀ p e s m args below meth c s₁, BodyLoose p l y (headSpec ws rm) cc maxL ret e s m args below meth c s₁ → c.maxLocals = maxL → (∀ x ∈ c.exceptionTable.toList, False) → Pc args s →
      W p l e (headSpec ws rm).room s m args below meth c s.heap [] 0 0 (vx_MQ below Qc XC args s mc ms free) (entryFrame m args maxL)) : vx_Met l y ws rm Pc Qc XC mc ms free := by
  refine MetFree.of_bodyS (code := cc) (maxLocals := maxL) (ret := ret) hy ?_ ?_
  · intro args s m h hn
    obtain ⟨meth, c, h1, h2, h3, h4, h5, h6, -, -⟩ := Cond.code_spec hn (atoms_spec (ws := ws) h _ (by rw [hw]; exact List.mem_cons_self))
    exact ⟨meth, c, h1, h2, h3, h4, h5, h6⟩
  · intro p e s m args below meth c s₁ B hml hP _
    have hh0 : s₁.heap = s.heap := by rw [B.state]; rfl
    have ht : ∀ x ∈ c.exceptionTable.toList, False := by
      obtain ⟨meth9, c9, h1, h2, -, -, -, -, h7, -⟩ := Cond.code_spec B.named (atoms_spec (ws := ws) B.pre _ (by rw [hw]; exact List.mem_cons_self))
      cases Option.some.inj (h1.symm.trans B.method)
      cases Option.some.inj (h2.symm.trans (Stand.of_body B).code)
      intro x hx
      rw [Array.isEmpty_iff.mp h7] at hx
      cases hx
    obtain ⟨t, a1, o, b1, b2, b3⟩ := body p e s m args below meth c s₁ B hml ht hP s₁ hh0 (Stand.of_body B)
    exact ⟨t, o, a1, b1, b2, b3⟩
/-- the table of a body with handlers -/
theorem vx_table {p : Program} {x y : MethodName} {S : Spec} {cc bytes : ByteArray} {maxL maxL' : Nat} {ret ret' : Option FieldType} {e : Env} {s s₁ : State} {m : MethodId} {args : Array Value} {below : List Frame} {meth : Method} {c : Code} {hh : List (Nat × Nat × Nat × Nat)}
    (B : BodyLoose p l y S cc maxL ret e s m args below meth c s₁) (h : (Cond.codeWith y bytes maxL' ret' hh).before args s = true) : c.exceptionTable.toList = tableOf hh := by
  obtain ⟨m9, meth9, c9, hn9, h1, h2, -, -, h6, -⟩ := Cond.codeWith_spec h
  cases Option.some.inj (hn9.symm.trans B.named)
  cases Option.some.inj (h1.symm.trans B.method)
  cases Option.some.inj (h2.symm.trans (Stand.of_body B).code)
  rw [← h6, table_eq]
end Bodies
end VXA
/-! ===== END ===== -/
/-! ===== BEGIN a static call of a method with an exception table ===== -/
section VXS
variable {p : Program} {l : Launch} {e : Env} {R : Room} {s : State} {m : MethodId} {args : Array Value} {below : List Frame} {meth : Method} {c : Code} {T : State} {H : Heap} {locs : List Loc} {cells slots : Nat}
abbrev vx_CSW (R : Room) (s : State) (args : Array Value) (own : String) (index : Nat) (y : MethodName) (bytes : ByteArray) (maxL : Nat) (ret : Option FieldType) (hh : List (Nat × Nat × Nat × Nat)) (ws : List Cond) (rm : Room) (mc ms n : Nat) : Prop :=
  (rm.cells = mc ∧ rm.slots = ms ∧ rm.frames + 1 ≤ R.frames ∧ 8 + (maxL + 11) + rm.locals ≤ R.locals ∧ (∀ w ∈ ws, ∀ (a' : Array Value) (U : State), s.WarmedH U.vm → w.before a' U = true) ∧ Cond.codeWith y bytes maxL ret hh ∈ ws) ∧
  (Cond.codeWith y bytes maxL ret hh).before args s = true ∧ (Cond.initialized y.cls).before args s = true ∧ (y.cls ≠ "java/lang/invoke/MethodHandle" ∧ y.cls ≠ "java/lang/invoke/VarHandle") ∧
  (∀ sig, parseMethodDescriptor y.desc = some sig → n = sig.parameters.length) ∧ (Cond.methodLink own index y).before args s = true ∧ (Cond.static y).before args s = true
theorem vx_cwSW {own : String} {index maxL mc ms : Nat} {y : MethodName} {bytes : ByteArray} {ret : Option FieldType} {hh : List (Nat × Nat × Nat × Nat)} {Ts ws ws' : List Cond} {rm : Room} (n : Nat) (ht : ∀ w ∈ Ts, w.before args s = true) (hT : GoodIn Ts (va_wsS own index y ws)) (hw : ws = Cond.codeWith y bytes maxL ret hh :: ws') (hrc : rm.cells = mc) (hrs : rm.slots = ms)
    (hd : y.cls ≠ "java/lang/invoke/MethodHandle" ∧ y.cls ≠ "java/lang/invoke/VarHandle" ∧ (parseMethodDescriptor y.desc).map (fun d => d.parameters.length) = some n) (hR : rm.frames + 1 ≤ R.frames ∧ 8 + (maxL + 11) + rm.locals ≤ R.locals) :
    vx_CSW R s args own index y bytes maxL ret hh ws rm mc ms n := by
  have ok : ∀ w ∈ va_wsS own index y ws, w.before args s = true := fun w h => ht w (hT w h).1
  have hG : GoodIn Ts ws := fun w h => hT w (by unfold va_wsS; exact List.mem_append_right _ h)
  have hc : Cond.codeWith y bytes maxL ret hh ∈ ws := by rw [hw]; exact List.mem_cons_self
  refine ⟨⟨hrc, hrs, hR.1, hR.2, pay_in ht hG, hc⟩, ht _ (hG _ hc).1, ok _ (by simp [va_wsS]), ⟨hd.1, hd.2.1⟩, fun sig h => ?_, ok _ (by simp [va_wsS]), ok _ (by simp [va_wsS])⟩
  have h2 := hd.2.2
  rw [h] at h2
  exact (Option.some.inj h2).symm
theorem vx_callSW (X : Stand p l e R s m args below meth c T locs cells slots) (hexec : p.tables.exec = Jvm.exec) {own : String} {index : Nat} {y : MethodName} {bytes : ByteArray} {maxL : Nat} {ret : Option FieldType} {hh : List (Nat × Nat × Nat × Nat)}
    (hown : s.vm.findClass own = some m.cls) (hlink : (Cond.methodLink own index y).before args s = true) (hstat : (Cond.static y).before args s = true) (hinit : (Cond.initialized y.cls).before args s = true)
    (hcode : (Cond.codeWith y bytes maxL ret hh).before args s = true) (hy : y.cls ≠ "java/lang/invoke/MethodHandle" ∧ y.cls ≠ "java/lang/invoke/VarHandle")
    {W9 : Nat} {Pre : Pt → Array Value → Prop} {Post : Pt → Array Value → Option Value → Pt → Prop} (hK : Back l R p e below s args y 3 W9 Pre Post)
    {g : JFrame} (hg : g.method = m) (hsize : g.locals.size = c.maxLocals) {argsL rest : List Value} (hlen : ∀ sig, parseMethodDescriptor y.desc = some sig → argsL.length = sig.parameters.length)
    (hstack : g.stack = argsL.reverse ++ rest) (hW : 2 * g.monitorRoom + (rest.map fun v => v.category).sum ≤ W9) (hdg : decode c.code g.pc = .ok (.invokestatic index, 3))
    (hpre : ∀ vm₁, s.WarmedH vm₁ → Pre ⟨T.setVm vm₁, locs, cells, slots⟩ argsL.toArray) :
    ∃ (v : Option Value) (vm₁ : Vm) (B : Pt), s.WarmedH vm₁ ∧ Stand p l e R s m args below meth c B.U B.locs B.cells B.slots ∧ Post ⟨T.setVm vm₁, locs, cells, slots⟩ argsL.toArray v B ∧
      ∀ target, Steps p.tables e below (B.U.setTop { g with pc := g.pc + 3, stack := v.toList ++ rest }) target → Steps p.tables e below (T.setTop g) target := by
  obtain ⟨mk, methM, cM, hnamed, hmethM, -, -, -, -, -, -, hsigM⟩ := Cond.codeWith_spec hcode
  have hstatic : methM.isStatic = true := Cond.static_spec hnamed hmethM hstat
  obtain ⟨kP, hkP, -⟩ := className_of_methodNamed hnamed
  have hinitP : kP.init = .initialized := Cond.initialized_spec (findClass_of_methodNamed hnamed) hkP hinit
  obtain ⟨vm₁, X₁, hstep₁⟩ := X.invokestatic hexec hown hlink hnamed hmethM hstatic hkP hinitP hy (g := g) hg (argsL := argsL) (rest := rest) (hlen _ hsigM) hstack hdg
  obtain ⟨v, B, X', hpost, hsteps⟩ := hK m meth c ⟨T.setVm vm₁, locs, cells, slots⟩ { g with stack := rest } (.invokestatic index) mk argsL.toArray X₁ hg hsize hdg hW (X₁.named hnamed) (hpre vm₁ X₁.warmed)
  exact ⟨v, vm₁, B, X₁.warmed, X', hpost, fun target h => hstep₁ _ fun acts => by rw [doInvoke_state]; exact hsteps.trans h⟩
theorem vx_runSW {y : MethodName} {bytes cc : ByteArray} {maxL nL mc ms n index : Nat} {ret : Option FieldType} {hh : List (Nat × Nat × Nat × Nat)} {ws : List Cond} {rm : Room} {Pc : Array Value → State → Prop} {Qc : Array Value → State → Outcome → State → Prop} {free : Addr → Prop} {Ts : List Cond} {own : String} {As rest : List Value} {g : JFrame}
    (S : CallFix p m c cc nL s args Ts own) (hM : Met l y ws rm Pc Qc mc ms free) (cw : vx_CSW R s args own index y bytes maxL ret hh ws rm mc ms n) (hp : PreS s H Pc As)
    (hg : g.method = m) (hn : As.length = n) (hsize : g.locals.size = nL) (hstack : g.stack = As.reverse ++ rest) (hW : 2 * g.monitorRoom + (rest.map fun v => v.category).sum ≤ 8) (hdg : decode cc g.pc = .ok (.invokestatic index, 3)) (hf : cells + mc ≤ R.cells ∧ slots + ms ≤ R.slots) :
    va_Run p l e R s m args below meth c H locs cells slots mc ms g rest (Qc As.toArray) (free) := by
  obtain ⟨⟨hrc, hrs, hfr, hlo, hws, hcw⟩, hcode, hini, hy, hlen, hl, hstt⟩ := cw
  have hK : Back l R p e below s args y 3 8 (PreOf R mc ms Pc) (PostOf Qc mc ms free) := va_backW (hh := hh) (bytes := bytes) (maxL := maxL) (ret := ret) hM hp.1 hrc hrs hfr hlo hws hcw (fun a' U hW => word_at hW (Or.inl (by first | rfl | simp [Cond.onTables, Cond.keeps, Cond.steady])) hini)
  obtain ⟨hx, hb, hml, ho, -⟩ := S
  intro T hT X
  obtain ⟨v, vm₁, ⟨U', l2, c2, s2⟩, hW₁, X', ⟨g', mk, t, L, e1, e2, hq, h1, hL, h2, h3⟩, st⟩ := vx_callSW X hx (hh := hh) (bytes := bytes) (maxL := maxL) (ret := ret) ho hl hstt hini hcode hy hK hg (hsize.trans hml.symm) (argsL := As) (rest := rest) (fun sig h => hn.trans (hlen sig h)) hstack hW (by rw [hb]; exact hdg)
    (fun vm₁ hW₁ => ⟨hf.1, hf.2, hp.2 (T.setVm vm₁) hT hW₁⟩)
  dsimp only [Pt.U, Pt.locs, Pt.cells, Pt.slots] at X' e1 e2 h1 h2 h3 st
  subst h1; subst h2; subst h3
  exact ⟨v, (T.setVm vm₁).calling g' mk As.toArray, t, U', L, hT, X', hL, e1, e2, hq, st⟩
/-- not caught here, past rows that name other classes: it goes on to the caller -/
theorem vx_outP {p : Program} {l : Launch} {e : Env} {R : Room} {s : State} {m : MethodId} {args : Array Value} {below : List Frame} {meth : Method} {c : Code} {H : Heap} {locs : List Loc} {cells slots : Nat} {free : Addr → Prop} {ls : Array Slot} {rest : List Value} {Qc : Array Value → State → Outcome → State → Prop} {XC : String → State → State → Prop}
    {pc : Nat} {own E : String} {ce : Cell} {q : Addr} {mc ms : Nat} (hown : s.vm.findClass own = some m.cls) (hlocks : meth.locks = false)
    (hpass : ∀ z ∈ c.exceptionTable.toList, covers z pc = false ∨ (z.catchType ≠ 0 ∧ ∃ nm : String, (Cond.classLink own z.catchType nm).before args s = true ∧ va_Nc E nm s)) (hcell : H[q]? = some ce) (hv : ce.vm = .none) (hcl : s.vm.findClass E = some ce.cls)
    (hx : ∀ t : State, t.heap = H → s.vm.Alike t.vm → XC E s t) (hf : ∀ z ∈ locs, free z.base) (hc : cells ≤ mc) (hs : slots ≤ ms) :
    vx_W p l e R s m args below meth c H locs cells slots (vx_MQ below Qc XC args s mc ms free) (F0 m pc ls rest) q := by
  intro T hT X
  have hpl : e.platform.magicAccessors = ({} : Platform).magicAccessors := by rw [X.admits.platform]
  obtain ⟨vm', hW', X', st⟩ := X.outThrough hlocks q (g := F0 m pc ls rest) rfl rfl rfl (cell := ce) (by rw [hT]; exact hcell) (by rw [hv]; rfl)
    (by obtain ⟨k9, h9, -⟩ := Vm.findClass_spec hcl; exact ⟨k9, h9⟩) (fun z hz => by
      rcases hpass z hz with h | ⟨hz0, nm, hl1, hn1⟩
      · exact Or.inl h
      · obtain ⟨c6, hc6, hcl6⟩ := Cond.classLink_spec hown hl1 e.platform hpl
        obtain ⟨a8, b8, h1, h2, h3⟩ := hn1
        cases Option.some.inj (h1.symm.trans hcl)
        cases Option.some.inj (h2.symm.trans hc6)
        exact Or.inr ⟨hz0, _, hcl6, h3⟩)
  obtain ⟨g₀, hfr⟩ := X'.frames_eq
  have hcell9 : ((T.setVm vm').setFrames (.throwing q :: below)).heap[q]? = some ce := by
    show T.heap[q]? = some ce
    rw [hT]; exact hcell
  have hend : Ended ((T.setVm vm').setFrames (.throwing q :: below)) below (.threw q) := State.frames_setFrames _ (State.cur_lt_of_frames hfr)
  refine ⟨(T.setVm vm').setFrames (.throwing q :: below), ?_, .threw q, X'.here.running, hend, Or.inr ⟨q, rfl, E, ce, locs, hx _ hT (X'.ends _).1.alike, hcell9, hv, hcl, (X'.ends _).1, (X'.ends _).2.mono hc hs, hf⟩⟩
  rw [X.pushThrowing_eq]
  exact st
/-- a thing of a world lies in the heap -/
theorem vx_lt {D : va_G} {cl : List vw_C} {ws : va_W} {H1 : Heap} (h : va_P D cl ws H1) {k : Nat} {q : Nat × va_E} (hk : ws[k]? = some q) : q.1 < H1.size := (h k q hk).lt
end VXS
/-! ===== END ===== -/
/-! ===== BEGIN methods with a table of their own: called by a name, returning or throwing ===== -/
section VXH
/-! vx_backW, vx_callVX, vx_callSX, vx_callVW, vx_runVW, vx_runVX, vx_runSX, vx_ofWH follow the same proofs as their sisters above (Free/Laws.lean, Shelf42/LK1.lean); vx_outP calls Shelf42/NT130.lean (outThrough). -/
section
variable {l : Launch} {R : Room} {p : Program} {e : Env} {below : List Frame} {s : State} {sargs : Array Value} {y : MethodName} {len W9 : Nat}
theorem vx_backW {ws : List Cond} {rm : Room} {Pc : Array Value → State → Prop} {Qc : Array Value → State → Outcome → State → Prop} {XC : String → State → State → Prop} {mc ms : Nat} {free : Addr → Prop} {bytes : ByteArray} {maxL : Nat} {ret : Option FieldType} {hh : List (Nat × Nat × Nat × Nat)}
    (hM : vx_Met l y ws rm Pc Qc XC mc ms free) (hblind : FrameBlind Pc) (hrc : rm.cells = mc) (hrs : rm.slots = ms)
    (hframes : rm.frames + 1 ≤ R.frames) (hlocals : W9 + (maxL + 11) + rm.locals ≤ R.locals)
    (hws : ∀ w ∈ ws, ∀ a' U, s.WarmedH U.vm → w.before a' U = true) (hcode : Cond.codeWith y bytes maxL ret hh ∈ ws) (hinit : ∀ a' U, s.WarmedH U.vm → (Cond.initialized y.cls).before a' U = true) :
    vx_Back l R p e below s sargs y len W9 (PreOf R mc ms Pc) (PostOf Qc mc ms free) (vx_Post XC mc ms free) := by
  intro m meth c A g ig mk a X hg hsize hdg hW hn hp
  have h1 : (headSpec ws rm).pre.before a A.U = true := atoms_intro fun w hw => hws w hw _ _ X.warmed
  have h2 : (Cond.codeWith y bytes maxL ret hh).before a A.U = true := hws _ hcode _ _ X.warmed
  have h3 : (Cond.initialized y.cls).before a A.U = true := hinit _ _ X.warmed
  have h4 : A.cells + (headSpec ws rm).room.cells ≤ R.cells := by rw [show (headSpec ws rm).room.cells = mc from hrc]; exact hp.1
  have h5 : A.slots + (headSpec ws rm).room.slots ≤ R.slots := by rw [show (headSpec ws rm).room.slots = ms from hrs]; exact hp.2.1
  have hPc : Pc a (A.U.calling g mk a) := hblind _ _ _ _ hp.2.2
  obtain ⟨U, Ls, c0, s0⟩ := A
  dsimp only [Pt.U, Pt.locs, Pt.cells, Pt.slots] at h1 h2 h3 h4 h5 X hn hPc ⊢
  obtain ⟨m9, methY, cY, hn9, hmY, hcY, -, hlY, -⟩ := Cond.codeWith_spec h2
  cases Option.some.inj (hn9.symm.trans hn)
  obtain ⟨kY, hkY, -⟩ := className_of_methodNamed hn
  have hinitY : kY.init = .initialized := Cond.initialized_spec (findClass_of_methodNamed hn) hkY h3
  have h : At U g.method c below := by rw [hg]; exact X.here
  have hlocals9 : W9 + (maxL + 11) + (headSpec ws rm).room.locals ≤ R.locals := hlocals
  have happ : (headSpec ws rm).appliesLoose y e.platform (U.calling g mk a) = true :=
    Spec.appliesLoose_calling (g := g) h hdg hn hkY hinitY
      (X.room_calling (g := g) (R' := (headSpec ws rm).room) hsize hmY hcY hframes (by rw [hlY]; omega) h4 h5) h1
  obtain ⟨mid, hmid⟩ := h.above
  have hfr : (U.setTop g).frames = (.java g :: mid) ++ below := by rw [State.frames_setTop' g h.top, hmid]; rfl
  obtain ⟨o, s₂, hsteps, -, hend, hq⟩ := Steps.callFree hM p X.admits X.cas X.clock (acts := []) hfr happ hPc trivial
  have hq' : vx_Q Qc XC mc ms free a (U.calling g mk a) o s₂ := hq
  rw [State.frames_setTop' g h.top] at hend
  obtain ⟨g₀, hg0⟩ := Option.isSome_iff_exists.mp h.top
  obtain ⟨r, hr⟩ := State.topJava?_eq_some.mp hg0
  have hr' : (({ U with heap := s₂.heap, slotsUsed := s₂.slotsUsed } : State).setVm s₂.vm).frames = .java g₀ :: r := hr
  rcases hq' with ⟨hqc, L, hfe, hL⟩ | ⟨q, rfl, E, ce, L, hx, hce, hcv, hcl, hW₂, hsm, hL⟩
  · obtain ⟨⟨v, rfl⟩, hW₂, e2, q2, q3, q4, q5, q6⟩ := id hfe
    have e3 : s₂ = ({ (U.calling g mk a).setFrames s₂.frames with heap := s₂.heap, slotsUsed := s₂.slotsUsed } : State).setVm s₂.vm := by
      have : s₂ = ({ s₂ with vm := (U.calling g mk a).vm } : State).setVm s₂.vm := rfl
      rw [e2] at this
      exact this
    obtain ⟨c₂, i₂, len₂, hc₂, hd₂, hf₂⟩ := hend
    have hW' : U.WarmedH s₂.vm := hW₂
    have hcc : c₂ = c := by
      have h1 : s₂.code? g.method = U.code? g.method := by
        rw [State.code?_eq, State.code?_eq, hW'.alike.method?]
      exact Option.some.inj (hc₂.symm.trans (h1.trans h.code))
    subst hcc
    have hlen : len₂ = len := by rw [hdg] at hd₂; cases hd₂; rfl
    subst hlen
    have hs₂ : s₂ = (({ U with heap := s₂.heap, slotsUsed := s₂.slotsUsed } : State).setVm s₂.vm).setTop { g with pc := g.pc + len₂, stack := v.toList ++ g.stack } := by
      refine e3.trans ?_
      rw [hf₂, State.calling_eq h.top, State.setFrames_setFrames, State.setTop_of_frames _ hr', hr]
      rfl
    have hsame : U.sameButNew ({ U with heap := s₂.heap, slotsUsed := s₂.slotsUsed } : State) L mc ms := by
      refine ⟨?_, q2, q3, q4, q5, q6⟩
      obtain ⟨t, ht, -⟩ := State.frames_cons hr
      show ({ U with heap := s₂.heap, slotsUsed := s₂.slotsUsed } : State) = { U.setFrames U.frames with heap := s₂.heap, slotsUsed := s₂.slotsUsed }
      rw [State.setFrames_self ht]
    subst hg
    refine Or.inl ⟨v, ⟨(({ U with heap := s₂.heap, slotsUsed := s₂.slotsUsed } : State).setVm s₂.vm), Ls ++ L, c0 + mc, s0 + ms⟩,
      ⟨X.admits, X.cas, X.clock, X.frames, X.room, X.hears, X.method, X.code, (X.here.setHeapUsed s₂.heap s₂.slotsUsed).setVm hW'.alike, X.tail, State.WarmedH.trans X.warmed hW', X.limits, X.bytes, X.same.trans (hsame.setVm s.vm)⟩,
      ⟨g, mk, s₂, L, rfl, rfl, hqc, rfl, hL, rfl, rfl⟩, ?_⟩
    show Steps p.tables e below _ ((({ U with heap := s₂.heap, slotsUsed := s₂.slotsUsed } : State).setVm s₂.vm).setTop { g with pc := g.pc + len₂, stack := v.toList ++ g.stack })
    rw [← hs₂]
    exact hsteps
  · obtain ⟨e2, q2, q3, q4, q5, q6⟩ := id hsm
    have e3 : s₂ = ({ (U.calling g mk a).setFrames s₂.frames with heap := s₂.heap, slotsUsed := s₂.slotsUsed } : State).setVm s₂.vm := by
      have : s₂ = ({ s₂ with vm := (U.calling g mk a).vm } : State).setVm s₂.vm := rfl
      rw [e2] at this
      exact this
    have hf₂ : s₂.frames = .throwing q :: .java g :: U.frames.tail := hend
    have hW' : U.WarmedH s₂.vm := hW₂
    have hs₂ : s₂ = ((({ U with heap := s₂.heap, slotsUsed := s₂.slotsUsed } : State).setVm s₂.vm).setTop g).pushFrame (.throwing q) := by
      refine e3.trans ?_
      rw [hf₂, State.calling_eq h.top, State.setFrames_setFrames, State.pushFrame, State.frames_setTop _ hr', State.setTop_of_frames _ hr', State.setFrames_setFrames, hr]
      rfl
    have hsame : U.sameButNew ({ U with heap := s₂.heap, slotsUsed := s₂.slotsUsed } : State) L mc ms := by
      refine ⟨?_, q2, q3, q4, q5, q6⟩
      obtain ⟨t, ht, -⟩ := State.frames_cons hr
      show ({ U with heap := s₂.heap, slotsUsed := s₂.slotsUsed } : State) = { U.setFrames U.frames with heap := s₂.heap, slotsUsed := s₂.slotsUsed }
      rw [State.setFrames_self ht]
    subst hg
    refine Or.inr ⟨q, ⟨(({ U with heap := s₂.heap, slotsUsed := s₂.slotsUsed } : State).setVm s₂.vm), Ls ++ L, c0 + mc, s0 + ms⟩,
      ⟨X.admits, X.cas, X.clock, X.frames, X.room, X.hears, X.method, X.code, (X.here.setHeapUsed s₂.heap s₂.slotsUsed).setVm hW'.alike, X.tail, State.WarmedH.trans X.warmed hW', X.limits, X.bytes, X.same.trans (hsame.setVm s.vm)⟩,
      ⟨g, mk, s₂, L, E, ce, rfl, rfl, hx, hce, hcv, hcl, rfl, hL, rfl, rfl⟩, ?_⟩
    show Steps p.tables e below _ (((({ U with heap := s₂.heap, slotsUsed := s₂.slotsUsed } : State).setVm s₂.vm).setTop g).pushFrame (.throwing q))
    rw [← hs₂]
    exact hsteps
end
variable {p : Program} {l : Launch} {e : Env} {R : Room} {s : State} {m : MethodId} {args : Array Value} {below : List Frame} {meth : Method} {c : Code} {T : State} {H : Heap} {locs : List Loc} {cells slots : Nat}
theorem vx_callVX (X : Stand p l e R s m args below meth c T locs cells slots) (hexec : p.tables.exec = Jvm.exec) {own C : String} {index : Nat} {y : MethodName} {bytes : ByteArray} {maxL : Nat} {ret : Option FieldType} {hh : List (Nat × Nat × Nat × Nat)}
    (hown : s.vm.findClass own = some m.cls) (hlink : (Cond.methodLink own index y).before args s = true) (hinst : (Cond.instanceMethod y).before args s = true) (hsel : (Cond.selects C y y).before args s = true)
    (hcode : (Cond.codeWith y bytes maxL ret hh).before args s = true) (hy : y.cls ≠ "java/lang/invoke/MethodHandle" ∧ y.cls ≠ "java/lang/invoke/VarHandle")
    {W9 : Nat} {Pre : Pt → Array Value → Prop} {Post : Pt → Array Value → Option Value → Pt → Prop} {PostX : Pt → Array Value → Addr → Pt → Prop} (hK : vx_Back l R p e below s args y 3 W9 Pre Post PostX)
    {b : Addr} {cellB : Cell} (hcell : T.heap[b]? = some cellB) (hobj : cellB.vm.isStatics = false) (hcls : s.vm.findClass C = some cellB.cls)
    {g : JFrame} (hg : g.method = m) (hsize : g.locals.size = c.maxLocals) {argsL rest : List Value} (hlen : ∀ sig, parseMethodDescriptor y.desc = some sig → argsL.length = sig.parameters.length)
    (hstack : g.stack = argsL.reverse ++ .ref b :: rest) (hW : 2 * g.monitorRoom + (rest.map fun v => v.category).sum ≤ W9) (hdg : decode c.code g.pc = .ok (.invokevirtual index, 3))
    (hpre : ∀ vm₁, s.WarmedH vm₁ → Pre ⟨T.setVm vm₁, locs, cells, slots⟩ (Value.ref b :: argsL).toArray) :
    (∃ (v : Option Value) (vm₁ : Vm) (B : Pt), s.WarmedH vm₁ ∧ Stand p l e R s m args below meth c B.U B.locs B.cells B.slots ∧ Post ⟨T.setVm vm₁, locs, cells, slots⟩ (Value.ref b :: argsL).toArray v B ∧
      ∀ target, Steps p.tables e below (B.U.setTop { g with pc := g.pc + 3, stack := v.toList ++ rest }) target → Steps p.tables e below (T.setTop g) target) ∨
    (∃ (q : Addr) (vm₁ : Vm) (B : Pt), s.WarmedH vm₁ ∧ Stand p l e R s m args below meth c B.U B.locs B.cells B.slots ∧ PostX ⟨T.setVm vm₁, locs, cells, slots⟩ (Value.ref b :: argsL).toArray q B ∧
      Steps p.tables e below (T.setTop g) ((B.U.setTop { g with stack := rest }).pushFrame (.throwing q))) := by
  obtain ⟨mk, methM, hnamed, hmethM, hstM, habM⟩ := Cond.instanceMethod_spec hinst
  obtain ⟨m8, methM', cM, hn8, hmethM', -, -, -, -, -, -, hsigM⟩ := Cond.codeWith_spec hcode
  cases Option.some.inj (hn8.symm.trans hnamed)
  cases hmethM.symm.trans hmethM'
  obtain ⟨c2, r2, m2, q1, q2, q3, q4, kP, hkP, hkPi⟩ := Cond.selects_spec hsel
  cases hcls.symm.trans q1
  cases (State.methodFound?_of_named hnamed hy).symm.trans q2
  cases hnamed.symm.trans q3
  have hselP : selectMethod e.platform s.vm cellB.cls mk = .method mk := by rw [Launch.admits_selectMethod X.admits]; exact q4
  obtain ⟨vm₁, X₁, hstep₁⟩ := X.invokevirtual hexec hown hlink hnamed hmethM hstM hkP hkPi hy (a := b) (cell := cellB) hcell
    (fun z h => by rw [h] at hobj; cases hobj) hselP hmethM habM hkP hkPi (g := g) hg (argsL := argsL) (rest := rest) (hlen _ hsigM) hstack hdg
  rcases hK m meth c ⟨T.setVm vm₁, locs, cells, slots⟩ { g with stack := rest } (.invokevirtual index) mk (Value.ref b :: argsL).toArray X₁ hg hsize hdg hW (X₁.named hnamed) (hpre vm₁ X₁.warmed) with ⟨v, B, X', hpost, hsteps⟩ | ⟨q, B, X', hpost, hsteps⟩
  · exact Or.inl ⟨v, vm₁, B, X₁.warmed, X', hpost, fun target h => hstep₁ _ fun acts => by rw [doInvoke_state]; exact hsteps.trans h⟩
  · exact Or.inr ⟨q, vm₁, B, X₁.warmed, X', hpost, hstep₁ _ fun acts => by rw [doInvoke_state]; exact hsteps⟩
theorem vx_callSX (X : Stand p l e R s m args below meth c T locs cells slots) (hexec : p.tables.exec = Jvm.exec) {own : String} {index : Nat} {y : MethodName} {bytes : ByteArray} {maxL : Nat} {ret : Option FieldType} {hh : List (Nat × Nat × Nat × Nat)}
    (hown : s.vm.findClass own = some m.cls) (hlink : (Cond.methodLink own index y).before args s = true) (hstat : (Cond.static y).before args s = true) (hinit : (Cond.initialized y.cls).before args s = true)
    (hcode : (Cond.codeWith y bytes maxL ret hh).before args s = true) (hy : y.cls ≠ "java/lang/invoke/MethodHandle" ∧ y.cls ≠ "java/lang/invoke/VarHandle")
    {W9 : Nat} {Pre : Pt → Array Value → Prop} {Post : Pt → Array Value → Option Value → Pt → Prop} {PostX : Pt → Array Value → Addr → Pt → Prop} (hK : vx_Back l R p e below s args y 3 W9 Pre Post PostX)
    {g : JFrame} (hg : g.method = m) (hsize : g.locals.size = c.maxLocals) {argsL rest : List Value} (hlen : ∀ sig, parseMethodDescriptor y.desc = some sig → argsL.length = sig.parameters.length)
    (hstack : g.stack = argsL.reverse ++ rest) (hW : 2 * g.monitorRoom + (rest.map fun v => v.category).sum ≤ W9) (hdg : decode c.code g.pc = .ok (.invokestatic index, 3))
    (hpre : ∀ vm₁, s.WarmedH vm₁ → Pre ⟨T.setVm vm₁, locs, cells, slots⟩ argsL.toArray) :
    (∃ (v : Option Value) (vm₁ : Vm) (B : Pt), s.WarmedH vm₁ ∧ Stand p l e R s m args below meth c B.U B.locs B.cells B.slots ∧ Post ⟨T.setVm vm₁, locs, cells, slots⟩ argsL.toArray v B ∧
      ∀ target, Steps p.tables e below (B.U.setTop { g with pc := g.pc + 3, stack := v.toList ++ rest }) target → Steps p.tables e below (T.setTop g) target) ∨
    (∃ (q : Addr) (vm₁ : Vm) (B : Pt), s.WarmedH vm₁ ∧ Stand p l e R s m args below meth c B.U B.locs B.cells B.slots ∧ PostX ⟨T.setVm vm₁, locs, cells, slots⟩ argsL.toArray q B ∧
      Steps p.tables e below (T.setTop g) ((B.U.setTop { g with stack := rest }).pushFrame (.throwing q))) := by
  obtain ⟨mk, methM, cM, hnamed, hmethM, -, -, -, -, -, -, hsigM⟩ := Cond.codeWith_spec hcode
  have hstatic : methM.isStatic = true := Cond.static_spec hnamed hmethM hstat
  obtain ⟨kP, hkP, -⟩ := className_of_methodNamed hnamed
  have hinitP : kP.init = .initialized := Cond.initialized_spec (findClass_of_methodNamed hnamed) hkP hinit
  obtain ⟨vm₁, X₁, hstep₁⟩ := X.invokestatic hexec hown hlink hnamed hmethM hstatic hkP hinitP hy (g := g) hg (argsL := argsL) (rest := rest) (hlen _ hsigM) hstack hdg
  rcases hK m meth c ⟨T.setVm vm₁, locs, cells, slots⟩ { g with stack := rest } (.invokestatic index) mk argsL.toArray X₁ hg hsize hdg hW (X₁.named hnamed) (hpre vm₁ X₁.warmed) with ⟨v, B, X', hpost, hsteps⟩ | ⟨q, B, X', hpost, hsteps⟩
  · exact Or.inl ⟨v, vm₁, B, X₁.warmed, X', hpost, fun target h => hstep₁ _ fun acts => by rw [doInvoke_state]; exact hsteps.trans h⟩
  · exact Or.inr ⟨q, vm₁, B, X₁.warmed, X', hpost, hstep₁ _ fun acts => by rw [doInvoke_state]; exact hsteps⟩
theorem vx_callVW (X : Stand p l e R s m args below meth c T locs cells slots) (hexec : p.tables.exec = Jvm.exec) {own C : String} {index : Nat} {y : MethodName} {bytes : ByteArray} {maxL : Nat} {ret : Option FieldType} {hh : List (Nat × Nat × Nat × Nat)}
    (hown : s.vm.findClass own = some m.cls) (hlink : (Cond.methodLink own index y).before args s = true) (hinst : (Cond.instanceMethod y).before args s = true) (hsel : (Cond.selects C y y).before args s = true)
    (hcode : (Cond.codeWith y bytes maxL ret hh).before args s = true) (hy : y.cls ≠ "java/lang/invoke/MethodHandle" ∧ y.cls ≠ "java/lang/invoke/VarHandle")
    {W9 : Nat} {Pre : Pt → Array Value → Prop} {Post : Pt → Array Value → Option Value → Pt → Prop} (hK : Back l R p e below s args y 3 W9 Pre Post)
    {b : Addr} {cellB : Cell} (hcell : T.heap[b]? = some cellB) (hobj : cellB.vm.isStatics = false) (hcls : s.vm.findClass C = some cellB.cls)
    {g : JFrame} (hg : g.method = m) (hsize : g.locals.size = c.maxLocals) {argsL rest : List Value} (hlen : ∀ sig, parseMethodDescriptor y.desc = some sig → argsL.length = sig.parameters.length)
    (hstack : g.stack = argsL.reverse ++ .ref b :: rest) (hW : 2 * g.monitorRoom + (rest.map fun v => v.category).sum ≤ W9) (hdg : decode c.code g.pc = .ok (.invokevirtual index, 3))
    (hpre : ∀ vm₁, s.WarmedH vm₁ → Pre ⟨T.setVm vm₁, locs, cells, slots⟩ (Value.ref b :: argsL).toArray) :
    ∃ (v : Option Value) (vm₁ : Vm) (B : Pt), s.WarmedH vm₁ ∧ Stand p l e R s m args below meth c B.U B.locs B.cells B.slots ∧ Post ⟨T.setVm vm₁, locs, cells, slots⟩ (Value.ref b :: argsL).toArray v B ∧
      ∀ target, Steps p.tables e below (B.U.setTop { g with pc := g.pc + 3, stack := v.toList ++ rest }) target → Steps p.tables e below (T.setTop g) target := by
  obtain ⟨mk, methM, hnamed, hmethM, hstM, habM⟩ := Cond.instanceMethod_spec hinst
  obtain ⟨m8, methM', cM, hn8, hmethM', -, -, -, -, -, -, hsigM⟩ := Cond.codeWith_spec hcode
  cases Option.some.inj (hn8.symm.trans hnamed)
  cases hmethM.symm.trans hmethM'
  obtain ⟨c2, r2, m2, q1, q2, q3, q4, kP, hkP, hkPi⟩ := Cond.selects_spec hsel
  cases hcls.symm.trans q1
  cases (State.methodFound?_of_named hnamed hy).symm.trans q2
  cases hnamed.symm.trans q3
  have hselP : selectMethod e.platform s.vm cellB.cls mk = .method mk := by rw [Launch.admits_selectMethod X.admits]; exact q4
  obtain ⟨vm₁, X₁, hstep₁⟩ := X.invokevirtual hexec hown hlink hnamed hmethM hstM hkP hkPi hy (a := b) (cell := cellB) hcell
    (fun z h => by rw [h] at hobj; cases hobj) hselP hmethM habM hkP hkPi (g := g) hg (argsL := argsL) (rest := rest) (hlen _ hsigM) hstack hdg
  obtain ⟨v, B, X', hpost, hsteps⟩ := hK m meth c ⟨T.setVm vm₁, locs, cells, slots⟩ { g with stack := rest } (.invokevirtual index) mk (Value.ref b :: argsL).toArray X₁ hg hsize hdg hW (X₁.named hnamed) (hpre vm₁ X₁.warmed)
  exact ⟨v, vm₁, B, X₁.warmed, X', hpost, fun target h => hstep₁ _ fun acts => by rw [doInvoke_state]; exact hsteps.trans h⟩
abbrev vx_CVW (R : Room) (s : State) (args : Array Value) (own C : String) (index : Nat) (y : MethodName) (bytes : ByteArray) (maxL : Nat) (ret : Option FieldType) (hh : List (Nat × Nat × Nat × Nat)) (ws : List Cond) (rm : Room) (mc ms n : Nat) : Prop :=
  (rm.cells = mc ∧ rm.slots = ms ∧ rm.frames + 1 ≤ R.frames ∧ 8 + (maxL + 11) + rm.locals ≤ R.locals ∧ (∀ w ∈ ws, ∀ (a' : Array Value) (U : State), s.WarmedH U.vm → w.before a' U = true) ∧ Cond.codeWith y bytes maxL ret hh ∈ ws) ∧
  (Cond.codeWith y bytes maxL ret hh).before args s = true ∧ (Cond.initialized y.cls).before args s = true ∧ (y.cls ≠ "java/lang/invoke/MethodHandle" ∧ y.cls ≠ "java/lang/invoke/VarHandle") ∧
  (∀ sig, parseMethodDescriptor y.desc = some sig → n = sig.parameters.length) ∧ (Cond.methodLink own index y).before args s = true ∧ (Cond.instanceMethod y).before args s = true ∧ (Cond.selects C y y).before args s = true
theorem vx_cwVW {own C : String} {index maxL mc ms : Nat} {y : MethodName} {bytes : ByteArray} {ret : Option FieldType} {hh : List (Nat × Nat × Nat × Nat)} {Ts ws ws' : List Cond} {rm : Room} (n : Nat) (ht : ∀ w ∈ Ts, w.before args s = true) (hT : GoodIn Ts (wsV own index C y ws)) (hw : ws = Cond.codeWith y bytes maxL ret hh :: ws') (hrc : rm.cells = mc) (hrs : rm.slots = ms)
    (hd : y.cls = C ∧ y.cls ≠ "java/lang/invoke/MethodHandle" ∧ y.cls ≠ "java/lang/invoke/VarHandle" ∧ (parseMethodDescriptor y.desc).map (fun d => d.parameters.length) = some n) (hR : rm.frames + 1 ≤ R.frames ∧ 8 + (maxL + 11) + rm.locals ≤ R.locals) :
    vx_CVW R s args own C index y bytes maxL ret hh ws rm mc ms n := by
  obtain ⟨hC, hd⟩ := hd
  subst hC
  have ok : ∀ w ∈ wsV own index y.cls y ws, w.before args s = true := fun w h => ht w (hT w h).1
  have hG : GoodIn Ts ws := fun w h => hT w (by unfold wsV; exact List.mem_append_right _ h)
  have hc : Cond.codeWith y bytes maxL ret hh ∈ ws := by rw [hw]; exact List.mem_cons_self
  refine ⟨⟨hrc, hrs, hR.1, hR.2, pay_in ht hG, hc⟩, ht _ (hG _ hc).1, ok _ (by simp [wsV]), ⟨hd.1, hd.2.1⟩, fun sig h => ?_, ok _ (by simp [wsV]), ok _ (by simp [wsV]), ok _ (by simp [wsV])⟩
  have h2 := hd.2.2
  rw [h] at h2
  exact (Option.some.inj h2).symm
theorem vx_runVW {y : MethodName} {bytes cc : ByteArray} {maxL nL mc ms n index : Nat} {ret : Option FieldType} {hh : List (Nat × Nat × Nat × Nat)} {ws : List Cond} {rm : Room} {Pc : Array Value → State → Prop} {Qc : Array Value → State → Outcome → State → Prop} {free : Addr → Prop} {Ts : List Cond} {own C : String} {b : Addr} {As rest : List Value} {g : JFrame}
    (S : CallFix p m c cc nL s args Ts own) (hM : Met l y ws rm Pc Qc mc ms free) (cw : vx_CVW R s args own C index y bytes maxL ret hh ws rm mc ms n) (hp : PreV s H C b Pc As)
    (hg : g.method = m) (hn : As.length = n) (hsize : g.locals.size = nL) (hstack : g.stack = As.reverse ++ .ref b :: rest) (hW : 2 * g.monitorRoom + (rest.map fun v => v.category).sum ≤ 8) (hdg : decode cc g.pc = .ok (.invokevirtual index, 3)) (hf : cells + mc ≤ R.cells ∧ slots + ms ≤ R.slots) :
    va_Run p l e R s m args below meth c H locs cells slots mc ms g rest (Qc (Value.ref b :: As).toArray) free := by
  obtain ⟨⟨hrc, hrs, hfr, hlo, hws, hcw⟩, hcode, hini, hy, hlen, hl, hin, hse⟩ := cw
  have hK : Back l R p e below s args y 3 8 (PreOf R mc ms Pc) (PostOf Qc mc ms free) := va_backW (hh := hh) (bytes := bytes) (maxL := maxL) (ret := ret) hM hp.1 hrc hrs hfr hlo hws hcw (fun a' U hW => word_at hW (Or.inl (by first | rfl | simp [Cond.onTables, Cond.keeps, Cond.steady])) hini)
  obtain ⟨hx, hb, hml, ho, -⟩ := S
  obtain ⟨-, ⟨cellB, hcB, hoB, hclB⟩, hPc⟩ := hp
  intro T hT X
  obtain ⟨v, vm₁, ⟨U', l2, c2, s2⟩, hW₁, X', ⟨g', mk, t, L, e1, e2, hq, h1, hL, h2, h3⟩, st⟩ := vx_callVW X hx (C := C) (hh := hh) (bytes := bytes) (maxL := maxL) (ret := ret) ho hl hin hse hcode hy hK (by rw [hT]; exact hcB) hoB hclB hg (hsize.trans hml.symm) (argsL := As) (rest := rest) (fun sig h => hn.trans (hlen sig h)) hstack hW (by rw [hb]; exact hdg)
    (fun vm₁ hW₁ => ⟨hf.1, hf.2, hPc (T.setVm vm₁) hT hW₁⟩)
  dsimp only [Pt.U, Pt.locs, Pt.cells, Pt.slots] at X' e1 e2 h1 h2 h3 st
  subst h1; subst h2; subst h3
  exact ⟨v, (T.setVm vm₁).calling g' mk (Value.ref b :: As).toArray, t, U', L, hT, X', hL, e1, e2, hq, st⟩
section
variable {y : MethodName} {bytes cc : ByteArray} {maxL nL mc ms n index : Nat} {ret : Option FieldType} {ws : List Cond} {rm : Room} {Pc : Array Value → State → Prop} {Qc : Array Value → State → Outcome → State → Prop} {XC : String → State → State → Prop} {free : Addr → Prop} {Ts : List Cond} {own C : String} {b : Addr} {As rest : List Value} {g : JFrame}
theorem vx_runVX {hh : List (Nat × Nat × Nat × Nat)} (S : CallFix p m c cc nL s args Ts own) (hM : vx_Met l y ws rm Pc Qc XC mc ms free) (cw : vx_CVW R s args own C index y bytes maxL ret hh ws rm mc ms n) (hp : PreV s H C b Pc As)
    (hg : g.method = m) (hn : As.length = n) (hsize : g.locals.size = nL) (hstack : g.stack = As.reverse ++ .ref b :: rest) (hW : 2 * g.monitorRoom + (rest.map fun v => v.category).sum ≤ 8) (hdg : decode cc g.pc = .ok (.invokevirtual index, 3)) (hf : cells + mc ≤ R.cells ∧ slots + ms ≤ R.slots) :
    vx_Run p l e R s m args below meth c H locs cells slots mc ms g rest (Qc (Value.ref b :: As).toArray) XC free := by
  obtain ⟨⟨hrc, hrs, hfr, hlo, hws, hcw⟩, hcode, hini, hy, hlen, hl, hin, hse⟩ := cw
  have hK : vx_Back l R p e below s args y 3 8 (PreOf R mc ms Pc) (PostOf Qc mc ms free) (vx_Post XC mc ms free) := vx_backW (hh := hh) (bytes := bytes) (maxL := maxL) (ret := ret) hM hp.1 hrc hrs hfr hlo hws hcw (fun a' U hW => word_at hW (Or.inl (by first | rfl | simp [Cond.onTables, Cond.keeps, Cond.steady])) hini)
  obtain ⟨hx, hb, hml, ho, -⟩ := S
  obtain ⟨-, ⟨cellB, hcB, hoB, hclB⟩, hPc⟩ := hp
  intro T hT X
  rcases vx_callVX X hx (C := C) (hh := hh) (bytes := bytes) (maxL := maxL) (ret := ret) ho hl hin hse hcode hy hK (by rw [hT]; exact hcB) hoB hclB hg (hsize.trans hml.symm) (argsL := As) (rest := rest) (fun sig h => hn.trans (hlen sig h)) hstack hW (by rw [hb]; exact hdg)
    (fun vm₁ hW₁ => ⟨hf.1, hf.2, hPc (T.setVm vm₁) hT hW₁⟩) with ⟨v, vm₁, ⟨U', l2, c2, s2⟩, hW₁, X', ⟨g', mk, t, L, e1, e2, hq, h1, hL, h2, h3⟩, st⟩ | ⟨q, vm₁, ⟨U', l2, c2, s2⟩, hW₁, X', ⟨g', mk, t, L, E, ce, e1, e2, hq, hce, hcv, hcl, h1, hL, h2, h3⟩, st⟩
  · dsimp only [Pt.U, Pt.locs, Pt.cells, Pt.slots] at X' e1 e2 h1 h2 h3 st
    subst h1; subst h2; subst h3
    exact Or.inl ⟨v, (T.setVm vm₁).calling g' mk (Value.ref b :: As).toArray, t, U', L, hT, X', hL, e1, e2, hq, st⟩
  · dsimp only [Pt.U, Pt.locs, Pt.cells, Pt.slots] at X' e1 e2 h1 h2 h3 st hcl
    subst h1; subst h2; subst h3
    exact Or.inr ⟨q, (T.setVm vm₁).calling g' mk (Value.ref b :: As).toArray, t, U', L, E, ce, hT, X', hL, e1, e2, hq, hce, hcv, vx_cls hW₁ hcl, st⟩
theorem vx_runSX {hh : List (Nat × Nat × Nat × Nat)} (S : CallFix p m c cc nL s args Ts own) (hM : vx_Met l y ws rm Pc Qc XC mc ms free) (cw : vx_CSW R s args own index y bytes maxL ret hh ws rm mc ms n) (hp : PreS s H Pc As)
    (hg : g.method = m) (hn : As.length = n) (hsize : g.locals.size = nL) (hstack : g.stack = As.reverse ++ rest) (hW : 2 * g.monitorRoom + (rest.map fun v => v.category).sum ≤ 8) (hdg : decode cc g.pc = .ok (.invokestatic index, 3)) (hf : cells + mc ≤ R.cells ∧ slots + ms ≤ R.slots) :
    vx_Run p l e R s m args below meth c H locs cells slots mc ms g rest (Qc As.toArray) XC free := by
  obtain ⟨⟨hrc, hrs, hfr, hlo, hws, hcw⟩, hcode, hini, hy, hlen, hl, hstt⟩ := cw
  have hK : vx_Back l R p e below s args y 3 8 (PreOf R mc ms Pc) (PostOf Qc mc ms free) (vx_Post XC mc ms free) := vx_backW (hh := hh) (bytes := bytes) (maxL := maxL) (ret := ret) hM hp.1 hrc hrs hfr hlo hws hcw (fun a' U hW => word_at hW (Or.inl (by first | rfl | simp [Cond.onTables, Cond.keeps, Cond.steady])) hini)
  obtain ⟨hx, hb, hml, ho, -⟩ := S
  intro T hT X
  rcases vx_callSX X hx (hh := hh) (bytes := bytes) (maxL := maxL) (ret := ret) ho hl hstt hini hcode hy hK hg (hsize.trans hml.symm) (argsL := As) (rest := rest) (fun sig h => hn.trans (hlen sig h)) hstack hW (by rw [hb]; exact hdg)
    (fun vm₁ hW₁ => ⟨hf.1, hf.2, hp.2 (T.setVm vm₁) hT hW₁⟩) with ⟨v, vm₁, ⟨U', l2, c2, s2⟩, hW₁, X', ⟨g', mk, t, L, e1, e2, hq, h1, hL, h2, h3⟩, st⟩ | ⟨q, vm₁, ⟨U', l2, c2, s2⟩, hW₁, X', ⟨g', mk, t, L, E, ce, e1, e2, hq, hce, hcv, hcl, h1, hL, h2, h3⟩, st⟩
  · dsimp only [Pt.U, Pt.locs, Pt.cells, Pt.slots] at X' e1 e2 h1 h2 h3 st
    subst h1; subst h2; subst h3
    exact Or.inl ⟨v, (T.setVm vm₁).calling g' mk As.toArray, t, U', L, hT, X', hL, e1, e2, hq, st⟩
  · dsimp only [Pt.U, Pt.locs, Pt.cells, Pt.slots] at X' e1 e2 h1 h2 h3 st hcl
    subst h1; subst h2; subst h3
    exact Or.inr ⟨q, (T.setVm vm₁).calling g' mk As.toArray, t, U', L, E, ce, hT, X', hL, e1, e2, hq, hce, hcv, vx_cls hW₁ hcl, st⟩
end
end VXH
theorem vx_ofWH {l : Launch} {y : MethodName} {ws ws' : List Cond} {rm : Room} {Pc : Array Value → State → Prop} {Qc : Array Value → State → Outcome → State → Prop} {XC : String → State → State → Prop} {mc ms : Nat} {free : Addr → Prop} {cc : ByteArray} {maxL : Nat} {ret : Option FieldType} {hh : List (Nat × Nat × Nat × Nat)}
    (hy : plainName y.cls = true) (hw : ws = Cond.codeWith y cc maxL ret hh :: ws')
    (body : ∀ p e s m args below meth c s₁, BodyLoose p l y (headSpec ws rm) cc maxL ret e s m args below meth c s₁ → c.maxLocals = maxL → Pc args s →
      W p l e (headSpec ws rm).room s m args below meth c s.heap [] 0 0 (vx_MQ below Qc XC args s mc ms free) (entryFrame m args maxL)) : vx_Met l y ws rm Pc Qc XC mc ms free := by
  refine MetFree.of_bodyS (code := cc) (maxLocals := maxL) (ret := ret) hy ?_ ?_
  · intro args s m h hn
    obtain ⟨m9, meth, c, hn9, h1, h2, h3, h4, -, h5, h6, -⟩ := Cond.codeWith_spec (atoms_spec (ws := ws) h _ (by rw [hw]; exact List.mem_cons_self))
    cases hn.symm.trans hn9
    exact ⟨meth, c, h1, h2, h3, h4, h5, h6⟩
  · intro p e s m args below meth c s₁ B hml hP _
    have hh0 : s₁.heap = s.heap := by rw [B.state]; rfl
    obtain ⟨t, a1, o, b1, b2, b3⟩ := body p e s m args below meth c s₁ B hml hP s₁ hh0 (Stand.of_body B)
    exact ⟨t, o, a1, b1, b2, b3⟩
/-! ===== END ===== -/
end
section
def RX0 : String := "SignRail"
def TX0 : u_T := fun k => match k with
  | 0 => ("SignRail", "shapes", "[I", true)
  | 1 => ("SignRail", "spaces", "[I", true)
  | 2 => ("SignRail", "leads", "[I", true)
  | 3 => ("SignRail", "names", "[I", true)
  | 4 => ("SignRail", "signTexts", "[I", true)
  | 5 => ("SignRail", "signDistances", "[I", true)
  | 6 => ("SignRail", "signShapes", "[I", true)
  | 7 => ("SignRail", "costSoFar", "J", false)
  | 8 => ("SignRail", "keptGoal", "I", false)
  | _ => ("SignRail", "keptSteps", "[I", true)
def tyX0 : Nat → FieldType := fun k => match k with
  | 0 => .array .int
  | 1 => .array .int
  | 2 => .array .int
  | 3 => .array .int
  | 4 => .array .int
  | 5 => .array .int
  | 6 => .array .int
  | 7 => .long
  | 8 => .int
  | _ => .array .int
abbrev wsX00 : List Cond := u_ws RX0 TX0 10
theorem nmX0 : ∀ a, a < 10 → ∀ b, b < 10 → a ≠ b → (TX0 a).2.1 ≠ (TX0 b).2.1 := by decide +kernel
theorem tyX0_ok : ∀ k, k < 10 → parseFieldDescriptor (TX0 k).2.2.1 = some (tyX0 k) := by decide +kernel
abbrev cX0_init : ByteArray := prog_1_method_1_code
def yX0_init : MethodName := ⟨RX0, "<init>", "()V"⟩
abbrev cX0_stroke : ByteArray := prog_1_method_2_code
def yX0_stroke : MethodName := ⟨RX0, "stroke", "(IIIIIZ)I"⟩
abbrev cX0_difference : ByteArray := prog_1_method_3_code
def yX0_difference : MethodName := ⟨RX0, "difference", "(II)I"⟩
abbrev cX0_width : ByteArray := prog_1_method_4_code
def yX0_width : MethodName := ⟨RX0, "width", "(I)I"⟩
abbrev cX0_space : ByteArray := prog_1_method_5_code
def yX0_space : MethodName := ⟨RX0, "space", "(III)I"⟩
abbrev cX0_lead : ByteArray := prog_1_method_6_code
def yX0_lead : MethodName := ⟨RX0, "lead", "(III)I"⟩
abbrev cX0_name : ByteArray := prog_1_method_7_code
def yX0_name : MethodName := ⟨RX0, "name", "(III)V"⟩
abbrev cX0_textWidth : ByteArray := prog_1_method_8_code
def yX0_textWidth : MethodName := ⟨RX0, "textWidth", "(II)I"⟩
abbrev cX0_cut : ByteArray := prog_1_method_9_code
def yX0_cut : MethodName := ⟨RX0, "cut", "(IIIII)I"⟩
abbrev cX0_remove : ByteArray := prog_1_method_10_code
def yX0_remove : MethodName := ⟨RX0, "remove", "(II)Z"⟩
abbrev cX0_isOld : ByteArray := prog_1_method_11_code
def yX0_isOld : MethodName := ⟨RX0, "isOld", "(II)Z"⟩
abbrev cX0_read : ByteArray := prog_1_method_13_code
def yX0_read : MethodName := ⟨RX0, "read", "(II)I"⟩
abbrev cX0_cost : ByteArray := prog_1_method_14_code
def yX0_cost : MethodName := ⟨RX0, "cost", "()J"⟩
abbrev cX0_walk : ByteArray := prog_1_method_15_code
def yX0_walk : MethodName := ⟨RX0, "walk", "(III)I"⟩
abbrev cX0_walkBySteps : ByteArray := prog_1_method_16_code
def yX0_walkBySteps : MethodName := ⟨RX0, "walkBySteps", "(III)I"⟩
abbrev cX0_placeBehind : ByteArray := prog_1_method_17_code
def yX0_placeBehind : MethodName := ⟨RX0, "placeBehind", "(IIII)I"⟩
abbrev cX0_requireGlyph : ByteArray := prog_1_method_18_code
def yX0_requireGlyph : MethodName := ⟨RX0, "requireGlyph", "(I)V"⟩
abbrev cX0_requirePlace : ByteArray := prog_1_method_19_code
def yX0_requirePlace : MethodName := ⟨RX0, "requirePlace", "(I)V"⟩
abbrev cX0_requireExit : ByteArray := prog_1_method_20_code
def yX0_requireExit : MethodName := ⟨RX0, "requireExit", "(II)V"⟩
abbrev cX0_requireText : ByteArray := prog_1_method_21_code
def yX0_requireText : MethodName := ⟨RX0, "requireText", "(II)V"⟩
abbrev cX0_requireLine : ByteArray := prog_1_method_22_code
def yX0_requireLine : MethodName := ⟨RX0, "requireLine", "(IIII)V"⟩
abbrev cX0_isCell : ByteArray := prog_1_method_23_code
def yX0_isCell : MethodName := ⟨RX0, "isCell", "(II)Z"⟩
abbrev cX0_lineCells : ByteArray := prog_1_method_24_code
def yX0_lineCells : MethodName := ⟨RX0, "lineCells", "(IIII)I"⟩
abbrev cX0_direction : ByteArray := prog_1_method_25_code
def yX0_direction : MethodName := ⟨RX0, "direction", "(II)I"⟩
abbrev cX0_differing : ByteArray := prog_1_method_26_code
def yX0_differing : MethodName := ⟨RX0, "differing", "(II)I"⟩
abbrev cX0_shapeWidth : ByteArray := prog_1_method_27_code
def yX0_shapeWidth : MethodName := ⟨RX0, "shapeWidth", "(I)I"⟩
abbrev cX0_hasColumn : ByteArray := prog_1_method_28_code
def yX0_hasColumn : MethodName := ⟨RX0, "hasColumn", "(II)Z"⟩
abbrev cX0_pairOf : ByteArray := prog_1_method_29_code
def yX0_pairOf : MethodName := ⟨RX0, "pairOf", "(II)I"⟩
abbrev cX0_pack : ByteArray := prog_1_method_30_code
def yX0_pack : MethodName := ⟨RX0, "pack", "(II)I"⟩
abbrev cX0_manyOf : ByteArray := prog_1_method_31_code
def yX0_manyOf : MethodName := ⟨RX0, "manyOf", "(I)I"⟩
abbrev cX0_numberOf : ByteArray := prog_1_method_32_code
def yX0_numberOf : MethodName := ⟨RX0, "numberOf", "(I)I"⟩
abbrev cX0_glyphAt : ByteArray := prog_1_method_33_code
def yX0_glyphAt : MethodName := ⟨RX0, "glyphAt", "(II)I"⟩
abbrev cX0_packedWidth : ByteArray := prog_1_method_34_code
def yX0_packedWidth : MethodName := ⟨RX0, "packedWidth", "(I)I"⟩
abbrev cX0_plateFor : ByteArray := prog_1_method_35_code
def yX0_plateFor : MethodName := ⟨RX0, "plateFor", "(I)I"⟩
abbrev cX0_wayOf : ByteArray := prog_1_method_36_code
def yX0_wayOf : MethodName := ⟨RX0, "wayOf", "(II)I"⟩
abbrev cX0_engrave : ByteArray := prog_1_method_37_code
def yX0_engrave : MethodName := ⟨RX0, "engrave", "(II)V"⟩
abbrev cX0_isOutdated : ByteArray := prog_1_method_38_code
def yX0_isOutdated : MethodName := ⟨RX0, "isOutdated", "(I)Z"⟩
abbrev cX0_readText : ByteArray := prog_1_method_40_code
def yX0_readText : MethodName := ⟨RX0, "readText", "(I)I"⟩
abbrev cX0_readGlyph : ByteArray := prog_1_method_41_code
def yX0_readGlyph : MethodName := ⟨RX0, "readGlyph", "(II)I"⟩
abbrev cX0_nearestGlyph : ByteArray := prog_1_method_42_code
def yX0_nearestGlyph : MethodName := ⟨RX0, "nearestGlyph", "(II)I"⟩
abbrev cX0_forgetWalks : ByteArray := prog_1_method_43_code
def yX0_forgetWalks : MethodName := ⟨RX0, "forgetWalks", "()V"⟩
abbrev cX0_stepsToArrive : ByteArray := prog_1_method_44_code
def yX0_stepsToArrive : MethodName := ⟨RX0, "stepsToArrive", "(II)I"⟩
abbrev cX0_placeReached : ByteArray := prog_1_method_45_code
def yX0_placeReached : MethodName := ⟨RX0, "placeReached", "(III)I"⟩
abbrev cX0_nextWay : ByteArray := prog_1_method_46_code
def yX0_nextWay : MethodName := ⟨RX0, "nextWay", "(III)I"⟩
def RX1 : String := "SignRailModel"
def TX1 : u_T := fun k => match k with
  | _ => ("", "", "", false)
def tyX1 : Nat → FieldType := fun k => match k with
  | _ => .int
abbrev wsX10 : List Cond := u_ws RX1 TX1 0
theorem nmX1 : ∀ a, a < 0 → ∀ b, b < 0 → a ≠ b → (TX1 a).2.1 ≠ (TX1 b).2.1 := by decide +kernel
theorem tyX1_ok : ∀ k, k < 0 → parseFieldDescriptor (TX1 k).2.2.1 = some (tyX1 k) := by decide +kernel
def RJx145de : String := "java/io/Serializable"
def TJx145de : u_T := fun k => match k with
  | _ => ("", "", "", false)
def tyJx145de : Nat → FieldType := fun k => match k with
  | _ => .int
abbrev wsJx145de0 : List Cond := u_ws RJx145de TJx145de 0
theorem nmJx145de : ∀ a, a < 0 → ∀ b, b < 0 → a ≠ b → (TJx145de a).2.1 ≠ (TJx145de b).2.1 := by decide +kernel
theorem tyJx145de_ok : ∀ k, k < 0 → parseFieldDescriptor (TJx145de k).2.2.1 = some (tyJx145de k) := by decide +kernel
def RJ6 : String := "java/lang/Integer"
def TJ6 : u_T := fun k => match k with
  | _ => ("", "", "", false)
def tyJ6 : Nat → FieldType := fun k => match k with
  | _ => .int
abbrev wsJ60 : List Cond := u_ws RJ6 TJ6 0
theorem nmJ6 : ∀ a, a < 0 → ∀ b, b < 0 → a ≠ b → (TJ6 a).2.1 ≠ (TJ6 b).2.1 := by decide +kernel
theorem tyJ6_ok : ∀ k, k < 0 → parseFieldDescriptor (TJ6 k).2.2.1 = some (tyJ6 k) := by decide +kernel
abbrev cJ6_bitCount_0f7a4 : ByteArray := prog_8_method_49_code
def yJ6_bitCount_0f7a4 : MethodName := ⟨RJ6, "bitCount", "(I)I"⟩
def RJ9 : String := "java/lang/Math"
def TJ9 : u_T := fun k => match k with
  | _ => ("", "", "", false)
def tyJ9 : Nat → FieldType := fun k => match k with
  | _ => .int
abbrev wsJ90 : List Cond := u_ws RJ9 TJ9 0
theorem nmJ9 : ∀ a, a < 0 → ∀ b, b < 0 → a ≠ b → (TJ9 a).2.1 ≠ (TJ9 b).2.1 := by decide +kernel
theorem tyJ9_ok : ∀ k, k < 0 → parseFieldDescriptor (TJ9 k).2.2.1 = some (tyJ9 k) := by decide +kernel
abbrev cJ9_abs_0f7a4 : ByteArray := prog_9_method_59_code
def yJ9_abs_0f7a4 : MethodName := ⟨RJ9, "abs", "(I)I"⟩
abbrev cJ9_max_7cf53 : ByteArray := prog_9_method_65_code
def yJ9_max_7cf53 : MethodName := ⟨RJ9, "max", "(II)I"⟩
def RJ0 : String := "java/lang/String"
def TJ0 : u_T := fun k => match k with
  | _ => ("", "", "", false)
def tyJ0 : Nat → FieldType := fun k => match k with
  | _ => .int
abbrev wsJ00 : List Cond := u_ws RJ0 TJ0 0
theorem nmJ0 : ∀ a, a < 0 → ∀ b, b < 0 → a ≠ b → (TJ0 a).2.1 ≠ (TJ0 b).2.1 := by decide +kernel
theorem tyJ0_ok : ∀ k, k < 0 → parseFieldDescriptor (TJ0 k).2.2.1 = some (tyJ0 k) := by decide +kernel
def RJ7 : String := "java/util/Arrays"
def TJ7 : u_T := fun k => match k with
  | _ => ("", "", "", false)
def tyJ7 : Nat → FieldType := fun k => match k with
  | _ => .int
abbrev wsJ70 : List Cond := u_ws RJ7 TJ7 0
theorem nmJ7 : ∀ a, a < 0 → ∀ b, b < 0 → a ≠ b → (TJ7 a).2.1 ≠ (TJ7 b).2.1 := by decide +kernel
theorem tyJ7_ok : ∀ k, k < 0 → parseFieldDescriptor (TJ7 k).2.2.1 = some (tyJ7 k) := by decide +kernel
abbrev cJ7_fill_53178 : ByteArray := prog_13_method_103_code
def yJ7_fill_53178 : MethodName := ⟨RJ7, "fill", "([II)V"⟩
def RL : String := "SignRailLaw"
abbrev cL_cell : ByteArray := method_2_code
def yL_cell : MethodName := ⟨RL, "cell", "([II)I"⟩
abbrev cL_low : ByteArray := method_3_code
def yL_low : MethodName := ⟨RL, "low", "(II)I"⟩
abbrev cL_isWalk : ByteArray := method_4_code
def yL_isWalk : MethodName := ⟨RL, "isWalk", "(LSignRail;III)Z"⟩
abbrev cL_areGlyphs : ByteArray := method_5_code
def yL_areGlyphs : MethodName := ⟨RL, "areGlyphs", "(LSignRail;II)Z"⟩
abbrev cL_law : ByteArray := code
def yL_law : MethodName := ⟨RL, "law", "([I)Z"⟩
def wsJ7_fill_53178 : List Cond := .code yJ7_fill_53178 cJ7_fill_53178 4 none :: ([])
def wsX0_init : List Cond := .code yX0_init cX0_init 1 none :: ([.methodLink RX0 3 objectInit, .instanceMethod objectInit, .code objectInit ⟨#[0xb1]⟩ 1 none, .arrayClass .int, .fieldLink RX0 9 "SignRail" "shapes" "[I", .fieldLink RX0 13 "SignRail" "spaces" "[I", .fieldLink RX0 16 "SignRail" "leads" "[I", .fieldLink RX0 19 "SignRail" "names" "[I", .fieldLink RX0 22 "SignRail" "signTexts" "[I", .fieldLink RX0 25 "SignRail" "signDistances" "[I", .fieldLink RX0 28 "SignRail" "signShapes" "[I", .fieldLink RX0 31 "SignRail" "costSoFar" "J", .fieldLink RX0 35 "SignRail" "keptGoal" "I", .fieldLink RX0 39 "SignRail" "keptSteps" "[I", .methodLink RX0 42 yJ7_fill_53178, .static yJ7_fill_53178, .initialized RJ7, .code yJ7_fill_53178 cJ7_fill_53178 4 none] ++ wsX00)
def wsX0_requireGlyph : List Cond := .code yX0_requireGlyph cX0_requireGlyph 1 none :: ([.classLink RX0 135 "java/lang/IndexOutOfBoundsException", .initialized "java/lang/IndexOutOfBoundsException"] ++ (vx_atS RX0 139 "java/lang/IndexOutOfBoundsException" ["java/lang/RuntimeException", "java/lang/Exception"]).filter goodWord)
def wsX0_isCell : List Cond := .code yX0_isCell cX0_isCell 2 (some .boolean) :: ([])
def wsX0_requireLine : List Cond := .code yX0_requireLine cX0_requireLine 6 none :: ([.classLink RX0 71 "java/lang/IllegalArgumentException", .initialized "java/lang/IllegalArgumentException", .methodLink RX0 154 Lib.Math.abs.name, .static Lib.Math.abs.name, .initialized "java/lang/Math", .code Lib.Math.abs.name Lib.Math.abs.code 1 (some .int), .methodLink RX0 148 yX0_isCell, .static yX0_isCell, .initialized RX0, .code yX0_isCell cX0_isCell 2 (some .boolean)] ++ (vx_atS RX0 75 "java/lang/IllegalArgumentException" ["java/lang/RuntimeException", "java/lang/Exception"]).filter goodWord)
def wsX0_direction : List Cond := .code yX0_direction cX0_direction 2 (some .int) :: ([])
def wsX0_lineCells : List Cond := .code yX0_lineCells cX0_lineCells 9 (some .int) :: ([.methodLink RX0 154 Lib.Math.abs.name, .static Lib.Math.abs.name, .initialized "java/lang/Math", .code Lib.Math.abs.name Lib.Math.abs.code 1 (some .int), .methodLink RX0 161 Lib.Math.max.name, .static Lib.Math.max.name, .code Lib.Math.max.name Lib.Math.max.code 2 (some .int), .methodLink RX0 164 yX0_direction, .static yX0_direction, .initialized RX0, .code yX0_direction cX0_direction 2 (some .int)])
def wsX0_forgetWalks : List Cond := .code yX0_forgetWalks cX0_forgetWalks 1 none :: ([.fieldLink RX0 35 "SignRail" "keptGoal" "I"] ++ wsX00)
def wsJ6_bitCount_0f7a4 : List Cond := .code yJ6_bitCount_0f7a4 cJ6_bitCount_0f7a4 1 (some .int) :: ([.constant RJ6 265 (1431655765), .constant RJ6 266 (858993459), .constant RJ6 267 (252645135)])
def wsX0_differing : List Cond := .code yX0_differing cX0_differing 2 (some .int) :: ([.methodLink RX0 167 yJ6_bitCount_0f7a4, .static yJ6_bitCount_0f7a4, .initialized RJ6, .code yJ6_bitCount_0f7a4 cJ6_bitCount_0f7a4 1 (some .int), .constant RJ6 265 (1431655765), .constant RJ6 266 (858993459), .constant RJ6 267 (252645135)])
def wsX0_stroke_r1 : List Cond := [Cond.fieldLink RX0 9 "SignRail" "shapes" "[I", Cond.methodLink RX0 48 yX0_requireGlyph, Cond.static yX0_requireGlyph, Cond.initialized RX0, Cond.code yX0_requireGlyph cX0_requireGlyph 1 none, Cond.classLink RX0 135 "java/lang/IndexOutOfBoundsException", Cond.initialized "java/lang/IndexOutOfBoundsException", Cond.methodLink RX0 52 yX0_requireLine, Cond.static yX0_requireLine, Cond.code yX0_requireLine cX0_requireLine 6 none, Cond.classLink RX0 71 "java/lang/IllegalArgumentException", Cond.initialized "java/lang/IllegalArgumentException", Cond.methodLink RX0 154 Lib.Math.abs.name, Cond.static Lib.Math.abs.name, Cond.initialized "java/lang/Math", Cond.code Lib.Math.abs.name Lib.Math.abs.code 1 (some .int), Cond.methodLink RX0 148 yX0_isCell, Cond.static yX0_isCell, Cond.code yX0_isCell cX0_isCell 2 (some .boolean), Cond.methodLink RX0 56 yX0_lineCells, Cond.static yX0_lineCells, Cond.code yX0_lineCells cX0_lineCells 9 (some .int), Cond.methodLink RX0 161 Lib.Math.max.name, Cond.static Lib.Math.max.name]
def wsX0_stroke_r2 : List Cond := [Cond.code Lib.Math.max.name Lib.Math.max.code 2 (some .int), Cond.methodLink RX0 164 yX0_direction, Cond.static yX0_direction, Cond.code yX0_direction cX0_direction 2 (some .int), Cond.methodLink RX0 60 yX0_forgetWalks, Cond.instanceMethod yX0_forgetWalks, Cond.selects RX0 yX0_forgetWalks yX0_forgetWalks, Cond.code yX0_forgetWalks cX0_forgetWalks 1 none, Cond.fieldLink RX0 35 "SignRail" "keptGoal" "I", Cond.methodLink RX0 63 yX0_differing, Cond.static yX0_differing, Cond.code yX0_differing cX0_differing 2 (some .int), Cond.methodLink RX0 167 yJ6_bitCount_0f7a4, Cond.static yJ6_bitCount_0f7a4, Cond.initialized RJ6, Cond.code yJ6_bitCount_0f7a4 cJ6_bitCount_0f7a4 1 (some .int), Cond.constant RJ6 265 (1431655765), Cond.constant RJ6 266 (858993459), Cond.constant RJ6 267 (252645135)]
def wsX0_stroke : List Cond := .code yX0_stroke cX0_stroke 10 (some .int) :: ((wsX0_stroke_r1 ++ wsX0_stroke_r2) ++ wsX00 ++ (vx_atS RX0 139 "java/lang/IndexOutOfBoundsException" ["java/lang/RuntimeException", "java/lang/Exception"]).filter goodWord ++ (vx_atS RX0 75 "java/lang/IllegalArgumentException" ["java/lang/RuntimeException", "java/lang/Exception"]).filter goodWord)
def wsX0_difference : List Cond := .code yX0_difference cX0_difference 3 (some .int) :: ([.fieldLink RX0 9 "SignRail" "shapes" "[I", .methodLink RX0 48 yX0_requireGlyph, .static yX0_requireGlyph, .initialized RX0, .code yX0_requireGlyph cX0_requireGlyph 1 none, .classLink RX0 135 "java/lang/IndexOutOfBoundsException", .initialized "java/lang/IndexOutOfBoundsException", .methodLink RX0 63 yX0_differing, .static yX0_differing, .code yX0_differing cX0_differing 2 (some .int), .methodLink RX0 167 yJ6_bitCount_0f7a4, .static yJ6_bitCount_0f7a4, .initialized RJ6, .code yJ6_bitCount_0f7a4 cJ6_bitCount_0f7a4 1 (some .int), .constant RJ6 265 (1431655765), .constant RJ6 266 (858993459), .constant RJ6 267 (252645135)] ++ wsX00 ++ (vx_atS RX0 139 "java/lang/IndexOutOfBoundsException" ["java/lang/RuntimeException", "java/lang/Exception"]).filter goodWord)
def wsX0_hasColumn : List Cond := .code yX0_hasColumn cX0_hasColumn 2 (some .boolean) :: ([.methodLink RX0 56 yX0_lineCells, .static yX0_lineCells, .initialized RX0, .code yX0_lineCells cX0_lineCells 9 (some .int), .methodLink RX0 154 Lib.Math.abs.name, .static Lib.Math.abs.name, .initialized "java/lang/Math", .code Lib.Math.abs.name Lib.Math.abs.code 1 (some .int), .methodLink RX0 161 Lib.Math.max.name, .static Lib.Math.max.name, .code Lib.Math.max.name Lib.Math.max.code 2 (some .int), .methodLink RX0 164 yX0_direction, .static yX0_direction, .code yX0_direction cX0_direction 2 (some .int)])
def wsX0_shapeWidth : List Cond := .code yX0_shapeWidth cX0_shapeWidth 4 (some .int) :: ([.methodLink RX0 172 yX0_hasColumn, .static yX0_hasColumn, .initialized RX0, .code yX0_hasColumn cX0_hasColumn 2 (some .boolean), .methodLink RX0 56 yX0_lineCells, .static yX0_lineCells, .code yX0_lineCells cX0_lineCells 9 (some .int), .methodLink RX0 154 Lib.Math.abs.name, .static Lib.Math.abs.name, .initialized "java/lang/Math", .code Lib.Math.abs.name Lib.Math.abs.code 1 (some .int), .methodLink RX0 161 Lib.Math.max.name, .static Lib.Math.max.name, .code Lib.Math.max.name Lib.Math.max.code 2 (some .int), .methodLink RX0 164 yX0_direction, .static yX0_direction, .code yX0_direction cX0_direction 2 (some .int)])
def wsX0_width_r1 : List Cond := [Cond.fieldLink RX0 9 "SignRail" "shapes" "[I", Cond.methodLink RX0 48 yX0_requireGlyph, Cond.static yX0_requireGlyph, Cond.initialized RX0, Cond.code yX0_requireGlyph cX0_requireGlyph 1 none, Cond.classLink RX0 135 "java/lang/IndexOutOfBoundsException", Cond.initialized "java/lang/IndexOutOfBoundsException", Cond.methodLink RX0 67 yX0_shapeWidth, Cond.static yX0_shapeWidth, Cond.code yX0_shapeWidth cX0_shapeWidth 4 (some .int), Cond.methodLink RX0 172 yX0_hasColumn, Cond.static yX0_hasColumn, Cond.code yX0_hasColumn cX0_hasColumn 2 (some .boolean), Cond.methodLink RX0 56 yX0_lineCells, Cond.static yX0_lineCells, Cond.code yX0_lineCells cX0_lineCells 9 (some .int), Cond.methodLink RX0 154 Lib.Math.abs.name, Cond.static Lib.Math.abs.name, Cond.initialized "java/lang/Math", Cond.code Lib.Math.abs.name Lib.Math.abs.code 1 (some .int), Cond.methodLink RX0 161 Lib.Math.max.name, Cond.static Lib.Math.max.name, Cond.code Lib.Math.max.name Lib.Math.max.code 2 (some .int), Cond.methodLink RX0 164 yX0_direction]
def wsX0_width_r2 : List Cond := [Cond.static yX0_direction, Cond.code yX0_direction cX0_direction 2 (some .int)]
def wsX0_width : List Cond := .code yX0_width cX0_width 2 (some .int) :: ((wsX0_width_r1 ++ wsX0_width_r2) ++ wsX00 ++ (vx_atS RX0 139 "java/lang/IndexOutOfBoundsException" ["java/lang/RuntimeException", "java/lang/Exception"]).filter goodWord)
def wsX0_pairOf : List Cond := .code yX0_pairOf cX0_pairOf 2 (some .int) :: ([])
def wsX0_space : List Cond := .code yX0_space cX0_space 6 (some .int) :: ([.classLink RX0 71 "java/lang/IllegalArgumentException", .initialized "java/lang/IllegalArgumentException", .fieldLink RX0 13 "SignRail" "spaces" "[I", .methodLink RX0 48 yX0_requireGlyph, .static yX0_requireGlyph, .initialized RX0, .code yX0_requireGlyph cX0_requireGlyph 1 none, .classLink RX0 135 "java/lang/IndexOutOfBoundsException", .initialized "java/lang/IndexOutOfBoundsException", .methodLink RX0 78 yX0_pairOf, .static yX0_pairOf, .code yX0_pairOf cX0_pairOf 2 (some .int)] ++ wsX00 ++ (vx_atS RX0 75 "java/lang/IllegalArgumentException" ["java/lang/RuntimeException", "java/lang/Exception"]).filter goodWord ++ (vx_atS RX0 139 "java/lang/IndexOutOfBoundsException" ["java/lang/RuntimeException", "java/lang/Exception"]).filter goodWord)
def wsX0_requirePlace : List Cond := .code yX0_requirePlace cX0_requirePlace 1 none :: ([.classLink RX0 135 "java/lang/IndexOutOfBoundsException", .initialized "java/lang/IndexOutOfBoundsException"] ++ (vx_atS RX0 139 "java/lang/IndexOutOfBoundsException" ["java/lang/RuntimeException", "java/lang/Exception"]).filter goodWord)
def wsX0_requireExit : List Cond := .code yX0_requireExit cX0_requireExit 2 none :: ([.classLink RX0 135 "java/lang/IndexOutOfBoundsException", .initialized "java/lang/IndexOutOfBoundsException", .methodLink RX0 85 yX0_requirePlace, .static yX0_requirePlace, .initialized RX0, .code yX0_requirePlace cX0_requirePlace 1 none] ++ (vx_atS RX0 139 "java/lang/IndexOutOfBoundsException" ["java/lang/RuntimeException", "java/lang/Exception"]).filter goodWord)
def wsX0_wayOf : List Cond := .code yX0_wayOf cX0_wayOf 2 (some .int) :: ([])
def wsX0_lead : List Cond := .code yX0_lead cX0_lead 6 (some .int) :: ([.fieldLink RX0 16 "SignRail" "leads" "[I", .methodLink RX0 81 yX0_requireExit, .static yX0_requireExit, .initialized RX0, .code yX0_requireExit cX0_requireExit 2 none, .classLink RX0 135 "java/lang/IndexOutOfBoundsException", .initialized "java/lang/IndexOutOfBoundsException", .methodLink RX0 85 yX0_requirePlace, .static yX0_requirePlace, .code yX0_requirePlace cX0_requirePlace 1 none, .methodLink RX0 88 yX0_wayOf, .static yX0_wayOf, .code yX0_wayOf cX0_wayOf 2 (some .int), .methodLink RX0 60 yX0_forgetWalks, .instanceMethod yX0_forgetWalks, .selects RX0 yX0_forgetWalks yX0_forgetWalks, .code yX0_forgetWalks cX0_forgetWalks 1 none, .fieldLink RX0 35 "SignRail" "keptGoal" "I"] ++ wsX00 ++ (vx_atS RX0 139 "java/lang/IndexOutOfBoundsException" ["java/lang/RuntimeException", "java/lang/Exception"]).filter goodWord)
def wsX0_requireText : List Cond := .code yX0_requireText cX0_requireText 2 none :: ([.classLink RX0 71 "java/lang/IllegalArgumentException", .initialized "java/lang/IllegalArgumentException"] ++ (vx_atS RX0 75 "java/lang/IllegalArgumentException" ["java/lang/RuntimeException", "java/lang/Exception"]).filter goodWord)
def wsX0_pack : List Cond := .code yX0_pack cX0_pack 2 (some .int) :: ([])
def wsX0_name : List Cond := .code yX0_name cX0_name 4 none :: ([.fieldLink RX0 19 "SignRail" "names" "[I", .methodLink RX0 85 yX0_requirePlace, .static yX0_requirePlace, .initialized RX0, .code yX0_requirePlace cX0_requirePlace 1 none, .classLink RX0 135 "java/lang/IndexOutOfBoundsException", .initialized "java/lang/IndexOutOfBoundsException", .methodLink RX0 91 yX0_requireText, .static yX0_requireText, .code yX0_requireText cX0_requireText 2 none, .classLink RX0 71 "java/lang/IllegalArgumentException", .initialized "java/lang/IllegalArgumentException", .methodLink RX0 94 yX0_pack, .static yX0_pack, .code yX0_pack cX0_pack 2 (some .int), .methodLink RX0 60 yX0_forgetWalks, .instanceMethod yX0_forgetWalks, .selects RX0 yX0_forgetWalks yX0_forgetWalks, .code yX0_forgetWalks cX0_forgetWalks 1 none, .fieldLink RX0 35 "SignRail" "keptGoal" "I"] ++ wsX00 ++ (vx_atS RX0 139 "java/lang/IndexOutOfBoundsException" ["java/lang/RuntimeException", "java/lang/Exception"]).filter goodWord ++ (vx_atS RX0 75 "java/lang/IllegalArgumentException" ["java/lang/RuntimeException", "java/lang/Exception"]).filter goodWord)
def wsX0_manyOf : List Cond := .code yX0_manyOf cX0_manyOf 1 (some .int) :: ([])
def wsX0_glyphAt : List Cond := .code yX0_glyphAt cX0_glyphAt 2 (some .int) :: ([])
def wsX0_packedWidth_r1 : List Cond := [Cond.fieldLink RX0 9 "SignRail" "shapes" "[I", Cond.fieldLink RX0 13 "SignRail" "spaces" "[I", Cond.methodLink RX0 175 yX0_manyOf, Cond.static yX0_manyOf, Cond.initialized RX0, Cond.code yX0_manyOf cX0_manyOf 1 (some .int), Cond.methodLink RX0 178 yX0_glyphAt, Cond.static yX0_glyphAt, Cond.code yX0_glyphAt cX0_glyphAt 2 (some .int), Cond.methodLink RX0 67 yX0_shapeWidth, Cond.static yX0_shapeWidth, Cond.code yX0_shapeWidth cX0_shapeWidth 4 (some .int), Cond.methodLink RX0 172 yX0_hasColumn, Cond.static yX0_hasColumn, Cond.code yX0_hasColumn cX0_hasColumn 2 (some .boolean), Cond.methodLink RX0 56 yX0_lineCells, Cond.static yX0_lineCells, Cond.code yX0_lineCells cX0_lineCells 9 (some .int), Cond.methodLink RX0 154 Lib.Math.abs.name, Cond.static Lib.Math.abs.name, Cond.initialized "java/lang/Math", Cond.code Lib.Math.abs.name Lib.Math.abs.code 1 (some .int), Cond.methodLink RX0 161 Lib.Math.max.name, Cond.static Lib.Math.max.name]
def wsX0_packedWidth_r2 : List Cond := [Cond.code Lib.Math.max.name Lib.Math.max.code 2 (some .int), Cond.methodLink RX0 164 yX0_direction, Cond.static yX0_direction, Cond.code yX0_direction cX0_direction 2 (some .int), Cond.methodLink RX0 78 yX0_pairOf, Cond.static yX0_pairOf, Cond.code yX0_pairOf cX0_pairOf 2 (some .int)]
def wsX0_packedWidth : List Cond := .code yX0_packedWidth cX0_packedWidth 5 (some .int) :: ((wsX0_packedWidth_r1 ++ wsX0_packedWidth_r2) ++ wsX00)
def wsX0_textWidth_r1 : List Cond := [Cond.methodLink RX0 91 yX0_requireText, Cond.static yX0_requireText, Cond.initialized RX0, Cond.code yX0_requireText cX0_requireText 2 none, Cond.classLink RX0 71 "java/lang/IllegalArgumentException", Cond.initialized "java/lang/IllegalArgumentException", Cond.methodLink RX0 94 yX0_pack, Cond.static yX0_pack, Cond.code yX0_pack cX0_pack 2 (some .int), Cond.methodLink RX0 97 yX0_packedWidth, Cond.instanceMethod yX0_packedWidth, Cond.selects RX0 yX0_packedWidth yX0_packedWidth, Cond.code yX0_packedWidth cX0_packedWidth 5 (some .int), Cond.fieldLink RX0 9 "SignRail" "shapes" "[I", Cond.fieldLink RX0 13 "SignRail" "spaces" "[I", Cond.methodLink RX0 175 yX0_manyOf, Cond.static yX0_manyOf, Cond.code yX0_manyOf cX0_manyOf 1 (some .int), Cond.methodLink RX0 178 yX0_glyphAt, Cond.static yX0_glyphAt, Cond.code yX0_glyphAt cX0_glyphAt 2 (some .int), Cond.methodLink RX0 67 yX0_shapeWidth, Cond.static yX0_shapeWidth, Cond.code yX0_shapeWidth cX0_shapeWidth 4 (some .int)]
def wsX0_textWidth_r2 : List Cond := [Cond.methodLink RX0 172 yX0_hasColumn, Cond.static yX0_hasColumn, Cond.code yX0_hasColumn cX0_hasColumn 2 (some .boolean), Cond.methodLink RX0 56 yX0_lineCells, Cond.static yX0_lineCells, Cond.code yX0_lineCells cX0_lineCells 9 (some .int), Cond.methodLink RX0 154 Lib.Math.abs.name, Cond.static Lib.Math.abs.name, Cond.initialized "java/lang/Math", Cond.code Lib.Math.abs.name Lib.Math.abs.code 1 (some .int), Cond.methodLink RX0 161 Lib.Math.max.name, Cond.static Lib.Math.max.name, Cond.code Lib.Math.max.name Lib.Math.max.code 2 (some .int), Cond.methodLink RX0 164 yX0_direction, Cond.static yX0_direction, Cond.code yX0_direction cX0_direction 2 (some .int), Cond.methodLink RX0 78 yX0_pairOf, Cond.static yX0_pairOf, Cond.code yX0_pairOf cX0_pairOf 2 (some .int)]
def wsX0_textWidth : List Cond := .code yX0_textWidth cX0_textWidth 3 (some .int) :: ((wsX0_textWidth_r1 ++ wsX0_textWidth_r2) ++ wsX00 ++ (vx_atS RX0 75 "java/lang/IllegalArgumentException" ["java/lang/RuntimeException", "java/lang/Exception"]).filter goodWord)
def wsX0_plateFor_r1 : List Cond := [Cond.methodLink RX0 97 yX0_packedWidth, Cond.instanceMethod yX0_packedWidth, Cond.selects RX0 yX0_packedWidth yX0_packedWidth, Cond.initialized RX0, Cond.code yX0_packedWidth cX0_packedWidth 5 (some .int), Cond.fieldLink RX0 9 "SignRail" "shapes" "[I", Cond.fieldLink RX0 13 "SignRail" "spaces" "[I", Cond.methodLink RX0 175 yX0_manyOf, Cond.static yX0_manyOf, Cond.code yX0_manyOf cX0_manyOf 1 (some .int), Cond.methodLink RX0 178 yX0_glyphAt, Cond.static yX0_glyphAt, Cond.code yX0_glyphAt cX0_glyphAt 2 (some .int), Cond.methodLink RX0 67 yX0_shapeWidth, Cond.static yX0_shapeWidth, Cond.code yX0_shapeWidth cX0_shapeWidth 4 (some .int), Cond.methodLink RX0 172 yX0_hasColumn, Cond.static yX0_hasColumn, Cond.code yX0_hasColumn cX0_hasColumn 2 (some .boolean), Cond.methodLink RX0 56 yX0_lineCells, Cond.static yX0_lineCells, Cond.code yX0_lineCells cX0_lineCells 9 (some .int), Cond.methodLink RX0 154 Lib.Math.abs.name, Cond.static Lib.Math.abs.name]
def wsX0_plateFor_r2 : List Cond := [Cond.initialized "java/lang/Math", Cond.code Lib.Math.abs.name Lib.Math.abs.code 1 (some .int), Cond.methodLink RX0 161 Lib.Math.max.name, Cond.static Lib.Math.max.name, Cond.code Lib.Math.max.name Lib.Math.max.code 2 (some .int), Cond.methodLink RX0 164 yX0_direction, Cond.static yX0_direction, Cond.code yX0_direction cX0_direction 2 (some .int), Cond.methodLink RX0 78 yX0_pairOf, Cond.static yX0_pairOf, Cond.code yX0_pairOf cX0_pairOf 2 (some .int)]
def wsX0_plateFor : List Cond := .code yX0_plateFor cX0_plateFor 3 (some .int) :: ((wsX0_plateFor_r1 ++ wsX0_plateFor_r2) ++ wsX00)
def wsX0_engrave : List Cond := .code yX0_engrave cX0_engrave 5 none :: ([.fieldLink RX0 22 "SignRail" "signTexts" "[I", .fieldLink RX0 28 "SignRail" "signShapes" "[I", .fieldLink RX0 9 "SignRail" "shapes" "[I", .fieldLink RX0 31 "SignRail" "costSoFar" "J", .methodLink RX0 175 yX0_manyOf, .static yX0_manyOf, .initialized RX0, .code yX0_manyOf cX0_manyOf 1 (some .int), .methodLink RX0 178 yX0_glyphAt, .static yX0_glyphAt, .code yX0_glyphAt cX0_glyphAt 2 (some .int)] ++ wsX00)
def wsX0_cut_r1 : List Cond := [Cond.classLink RX0 71 "java/lang/IllegalArgumentException", Cond.initialized "java/lang/IllegalArgumentException", Cond.classLink RX0 105 "java/lang/IllegalStateException", Cond.initialized "java/lang/IllegalStateException", Cond.fieldLink RX0 22 "SignRail" "signTexts" "[I", Cond.fieldLink RX0 25 "SignRail" "signDistances" "[I", Cond.methodLink RX0 81 yX0_requireExit, Cond.static yX0_requireExit, Cond.initialized RX0, Cond.code yX0_requireExit cX0_requireExit 2 none, Cond.classLink RX0 135 "java/lang/IndexOutOfBoundsException", Cond.initialized "java/lang/IndexOutOfBoundsException", Cond.methodLink RX0 85 yX0_requirePlace, Cond.static yX0_requirePlace, Cond.code yX0_requirePlace cX0_requirePlace 1 none, Cond.methodLink RX0 91 yX0_requireText, Cond.static yX0_requireText, Cond.code yX0_requireText cX0_requireText 2 none, Cond.methodLink RX0 94 yX0_pack, Cond.static yX0_pack, Cond.code yX0_pack cX0_pack 2 (some .int), Cond.methodLink RX0 102 yX0_plateFor, Cond.instanceMethod yX0_plateFor, Cond.selects RX0 yX0_plateFor yX0_plateFor]
def wsX0_cut_r2 : List Cond := [Cond.code yX0_plateFor cX0_plateFor 3 (some .int), Cond.methodLink RX0 97 yX0_packedWidth, Cond.instanceMethod yX0_packedWidth, Cond.selects RX0 yX0_packedWidth yX0_packedWidth, Cond.code yX0_packedWidth cX0_packedWidth 5 (some .int), Cond.fieldLink RX0 9 "SignRail" "shapes" "[I", Cond.fieldLink RX0 13 "SignRail" "spaces" "[I", Cond.methodLink RX0 175 yX0_manyOf, Cond.static yX0_manyOf, Cond.code yX0_manyOf cX0_manyOf 1 (some .int), Cond.methodLink RX0 178 yX0_glyphAt, Cond.static yX0_glyphAt, Cond.code yX0_glyphAt cX0_glyphAt 2 (some .int), Cond.methodLink RX0 67 yX0_shapeWidth, Cond.static yX0_shapeWidth, Cond.code yX0_shapeWidth cX0_shapeWidth 4 (some .int), Cond.methodLink RX0 172 yX0_hasColumn, Cond.static yX0_hasColumn, Cond.code yX0_hasColumn cX0_hasColumn 2 (some .boolean), Cond.methodLink RX0 56 yX0_lineCells, Cond.static yX0_lineCells, Cond.code yX0_lineCells cX0_lineCells 9 (some .int), Cond.methodLink RX0 154 Lib.Math.abs.name, Cond.static Lib.Math.abs.name]
def wsX0_cut_r3 : List Cond := [Cond.initialized "java/lang/Math", Cond.code Lib.Math.abs.name Lib.Math.abs.code 1 (some .int), Cond.methodLink RX0 161 Lib.Math.max.name, Cond.static Lib.Math.max.name, Cond.code Lib.Math.max.name Lib.Math.max.code 2 (some .int), Cond.methodLink RX0 164 yX0_direction, Cond.static yX0_direction, Cond.code yX0_direction cX0_direction 2 (some .int), Cond.methodLink RX0 78 yX0_pairOf, Cond.static yX0_pairOf, Cond.code yX0_pairOf cX0_pairOf 2 (some .int), Cond.methodLink RX0 88 yX0_wayOf, Cond.static yX0_wayOf, Cond.code yX0_wayOf cX0_wayOf 2 (some .int), Cond.methodLink RX0 110 yX0_engrave, Cond.instanceMethod yX0_engrave, Cond.selects RX0 yX0_engrave yX0_engrave, Cond.code yX0_engrave cX0_engrave 5 none, Cond.fieldLink RX0 28 "SignRail" "signShapes" "[I", Cond.fieldLink RX0 31 "SignRail" "costSoFar" "J", Cond.methodLink RX0 60 yX0_forgetWalks, Cond.instanceMethod yX0_forgetWalks, Cond.selects RX0 yX0_forgetWalks yX0_forgetWalks, Cond.code yX0_forgetWalks cX0_forgetWalks 1 none]
def wsX0_cut_r4 : List Cond := [Cond.fieldLink RX0 35 "SignRail" "keptGoal" "I"]
def wsX0_cut : List Cond := .code yX0_cut cX0_cut 9 (some .int) :: ((wsX0_cut_r1 ++ (wsX0_cut_r2 ++ (wsX0_cut_r3 ++ wsX0_cut_r4))) ++ wsX00 ++ (vx_atS RX0 75 "java/lang/IllegalArgumentException" ["java/lang/RuntimeException", "java/lang/Exception"]).filter goodWord ++ (vx_atS RX0 109 "java/lang/IllegalStateException" ["java/lang/RuntimeException", "java/lang/Exception"]).filter goodWord ++ (vx_atS RX0 139 "java/lang/IndexOutOfBoundsException" ["java/lang/RuntimeException", "java/lang/Exception"]).filter goodWord)
def wsX0_remove : List Cond := .code yX0_remove cX0_remove 5 (some .boolean) :: ([.fieldLink RX0 22 "SignRail" "signTexts" "[I", .methodLink RX0 81 yX0_requireExit, .static yX0_requireExit, .initialized RX0, .code yX0_requireExit cX0_requireExit 2 none, .classLink RX0 135 "java/lang/IndexOutOfBoundsException", .initialized "java/lang/IndexOutOfBoundsException", .methodLink RX0 85 yX0_requirePlace, .static yX0_requirePlace, .code yX0_requirePlace cX0_requirePlace 1 none, .methodLink RX0 88 yX0_wayOf, .static yX0_wayOf, .code yX0_wayOf cX0_wayOf 2 (some .int), .methodLink RX0 60 yX0_forgetWalks, .instanceMethod yX0_forgetWalks, .selects RX0 yX0_forgetWalks yX0_forgetWalks, .code yX0_forgetWalks cX0_forgetWalks 1 none, .fieldLink RX0 35 "SignRail" "keptGoal" "I"] ++ wsX00 ++ (vx_atS RX0 139 "java/lang/IndexOutOfBoundsException" ["java/lang/RuntimeException", "java/lang/Exception"]).filter goodWord)
def wsX0_isOutdated : List Cond := .code yX0_isOutdated cX0_isOutdated 4 (some .boolean) :: ([.fieldLink RX0 22 "SignRail" "signTexts" "[I", .fieldLink RX0 28 "SignRail" "signShapes" "[I", .fieldLink RX0 9 "SignRail" "shapes" "[I", .methodLink RX0 175 yX0_manyOf, .static yX0_manyOf, .initialized RX0, .code yX0_manyOf cX0_manyOf 1 (some .int), .methodLink RX0 178 yX0_glyphAt, .static yX0_glyphAt, .code yX0_glyphAt cX0_glyphAt 2 (some .int)] ++ wsX00)
def wsX0_isOld_r1 : List Cond := [Cond.methodLink RX0 81 yX0_requireExit, Cond.static yX0_requireExit, Cond.initialized RX0, Cond.code yX0_requireExit cX0_requireExit 2 none, Cond.classLink RX0 135 "java/lang/IndexOutOfBoundsException", Cond.initialized "java/lang/IndexOutOfBoundsException", Cond.methodLink RX0 85 yX0_requirePlace, Cond.static yX0_requirePlace, Cond.code yX0_requirePlace cX0_requirePlace 1 none, Cond.methodLink RX0 88 yX0_wayOf, Cond.static yX0_wayOf, Cond.code yX0_wayOf cX0_wayOf 2 (some .int), Cond.methodLink RX0 113 yX0_isOutdated, Cond.instanceMethod yX0_isOutdated, Cond.selects RX0 yX0_isOutdated yX0_isOutdated, Cond.code yX0_isOutdated cX0_isOutdated 4 (some .boolean), Cond.fieldLink RX0 22 "SignRail" "signTexts" "[I", Cond.fieldLink RX0 28 "SignRail" "signShapes" "[I", Cond.fieldLink RX0 9 "SignRail" "shapes" "[I", Cond.methodLink RX0 175 yX0_manyOf, Cond.static yX0_manyOf, Cond.code yX0_manyOf cX0_manyOf 1 (some .int), Cond.methodLink RX0 178 yX0_glyphAt, Cond.static yX0_glyphAt]
def wsX0_isOld_r2 : List Cond := [Cond.code yX0_glyphAt cX0_glyphAt 2 (some .int)]
def wsX0_isOld : List Cond := .code yX0_isOld cX0_isOld 3 (some .boolean) :: ((wsX0_isOld_r1 ++ wsX0_isOld_r2) ++ wsX00 ++ (vx_atS RX0 139 "java/lang/IndexOutOfBoundsException" ["java/lang/RuntimeException", "java/lang/Exception"]).filter goodWord)
def wsX0_nearestGlyph : List Cond := .code yX0_nearestGlyph cX0_nearestGlyph 5 (some .int) :: ([.fieldLink RX0 9 "SignRail" "shapes" "[I", .methodLink RX0 63 yX0_differing, .static yX0_differing, .initialized RX0, .code yX0_differing cX0_differing 2 (some .int), .methodLink RX0 167 yJ6_bitCount_0f7a4, .static yJ6_bitCount_0f7a4, .initialized RJ6, .code yJ6_bitCount_0f7a4 cJ6_bitCount_0f7a4 1 (some .int), .constant RJ6 265 (1431655765), .constant RJ6 266 (858993459), .constant RJ6 267 (252645135)] ++ wsX00)
def wsX0_readGlyph : List Cond := .code yX0_readGlyph cX0_readGlyph 6 (some .int) :: ([.fieldLink RX0 9 "SignRail" "shapes" "[I", .methodLink RX0 184 yX0_nearestGlyph, .instanceMethod yX0_nearestGlyph, .selects RX0 yX0_nearestGlyph yX0_nearestGlyph, .initialized RX0, .code yX0_nearestGlyph cX0_nearestGlyph 5 (some .int), .methodLink RX0 63 yX0_differing, .static yX0_differing, .code yX0_differing cX0_differing 2 (some .int), .methodLink RX0 167 yJ6_bitCount_0f7a4, .static yJ6_bitCount_0f7a4, .initialized RJ6, .code yJ6_bitCount_0f7a4 cJ6_bitCount_0f7a4 1 (some .int), .constant RJ6 265 (1431655765), .constant RJ6 266 (858993459), .constant RJ6 267 (252645135)] ++ wsX00)
def wsX0_readText_r1 : List Cond := [Cond.fieldLink RX0 22 "SignRail" "signTexts" "[I", Cond.fieldLink RX0 28 "SignRail" "signShapes" "[I", Cond.fieldLink RX0 25 "SignRail" "signDistances" "[I", Cond.methodLink RX0 175 yX0_manyOf, Cond.static yX0_manyOf, Cond.initialized RX0, Cond.code yX0_manyOf cX0_manyOf 1 (some .int), Cond.methodLink RX0 181 yX0_readGlyph, Cond.instanceMethod yX0_readGlyph, Cond.selects RX0 yX0_readGlyph yX0_readGlyph, Cond.code yX0_readGlyph cX0_readGlyph 6 (some .int), Cond.fieldLink RX0 9 "SignRail" "shapes" "[I", Cond.methodLink RX0 184 yX0_nearestGlyph, Cond.instanceMethod yX0_nearestGlyph, Cond.selects RX0 yX0_nearestGlyph yX0_nearestGlyph, Cond.code yX0_nearestGlyph cX0_nearestGlyph 5 (some .int), Cond.methodLink RX0 63 yX0_differing, Cond.static yX0_differing, Cond.code yX0_differing cX0_differing 2 (some .int), Cond.methodLink RX0 167 yJ6_bitCount_0f7a4, Cond.static yJ6_bitCount_0f7a4, Cond.initialized RJ6, Cond.code yJ6_bitCount_0f7a4 cJ6_bitCount_0f7a4 1 (some .int), Cond.constant RJ6 265 (1431655765)]
def wsX0_readText_r2 : List Cond := [Cond.constant RJ6 266 (858993459), Cond.constant RJ6 267 (252645135), Cond.methodLink RX0 94 yX0_pack, Cond.static yX0_pack, Cond.code yX0_pack cX0_pack 2 (some .int)]
def wsX0_readText : List Cond := .code yX0_readText cX0_readText 6 (some .int) :: ((wsX0_readText_r1 ++ wsX0_readText_r2) ++ wsX00)
def wsX0_numberOf : List Cond := .code yX0_numberOf cX0_numberOf 1 (some .int) :: ([])
def wsX0_read_r1 : List Cond := [Cond.fieldLink RX0 22 "SignRail" "signTexts" "[I", Cond.methodLink RX0 81 yX0_requireExit, Cond.static yX0_requireExit, Cond.initialized RX0, Cond.code yX0_requireExit cX0_requireExit 2 none, Cond.classLink RX0 135 "java/lang/IndexOutOfBoundsException", Cond.initialized "java/lang/IndexOutOfBoundsException", Cond.methodLink RX0 85 yX0_requirePlace, Cond.static yX0_requirePlace, Cond.code yX0_requirePlace cX0_requirePlace 1 none, Cond.methodLink RX0 88 yX0_wayOf, Cond.static yX0_wayOf, Cond.code yX0_wayOf cX0_wayOf 2 (some .int), Cond.methodLink RX0 120 yX0_readText, Cond.instanceMethod yX0_readText, Cond.selects RX0 yX0_readText yX0_readText, Cond.code yX0_readText cX0_readText 6 (some .int), Cond.fieldLink RX0 28 "SignRail" "signShapes" "[I", Cond.fieldLink RX0 25 "SignRail" "signDistances" "[I", Cond.methodLink RX0 175 yX0_manyOf, Cond.static yX0_manyOf, Cond.code yX0_manyOf cX0_manyOf 1 (some .int), Cond.methodLink RX0 181 yX0_readGlyph, Cond.instanceMethod yX0_readGlyph]
def wsX0_read_r2 : List Cond := [Cond.selects RX0 yX0_readGlyph yX0_readGlyph, Cond.code yX0_readGlyph cX0_readGlyph 6 (some .int), Cond.fieldLink RX0 9 "SignRail" "shapes" "[I", Cond.methodLink RX0 184 yX0_nearestGlyph, Cond.instanceMethod yX0_nearestGlyph, Cond.selects RX0 yX0_nearestGlyph yX0_nearestGlyph, Cond.code yX0_nearestGlyph cX0_nearestGlyph 5 (some .int), Cond.methodLink RX0 63 yX0_differing, Cond.static yX0_differing, Cond.code yX0_differing cX0_differing 2 (some .int), Cond.methodLink RX0 167 yJ6_bitCount_0f7a4, Cond.static yJ6_bitCount_0f7a4, Cond.initialized RJ6, Cond.code yJ6_bitCount_0f7a4 cJ6_bitCount_0f7a4 1 (some .int), Cond.constant RJ6 265 (1431655765), Cond.constant RJ6 266 (858993459), Cond.constant RJ6 267 (252645135), Cond.methodLink RX0 94 yX0_pack, Cond.static yX0_pack, Cond.code yX0_pack cX0_pack 2 (some .int), Cond.methodLink RX0 123 yX0_numberOf, Cond.static yX0_numberOf, Cond.code yX0_numberOf cX0_numberOf 1 (some .int)]
def wsX0_read : List Cond := .code yX0_read cX0_read 4 (some .int) :: ((wsX0_read_r1 ++ wsX0_read_r2) ++ wsX00 ++ (vx_atS RX0 139 "java/lang/IndexOutOfBoundsException" ["java/lang/RuntimeException", "java/lang/Exception"]).filter goodWord)
def wsX0_cost : List Cond := .code yX0_cost cX0_cost 1 (some .long) :: ([.fieldLink RX0 31 "SignRail" "costSoFar" "J"] ++ wsX00)
def wsX0_nextWay_r1 : List Cond := [Cond.fieldLink RX0 16 "SignRail" "leads" "[I", Cond.methodLink RX0 88 yX0_wayOf, Cond.static yX0_wayOf, Cond.initialized RX0, Cond.code yX0_wayOf cX0_wayOf 2 (some .int), Cond.methodLink RX0 120 yX0_readText, Cond.instanceMethod yX0_readText, Cond.selects RX0 yX0_readText yX0_readText, Cond.code yX0_readText cX0_readText 6 (some .int), Cond.fieldLink RX0 22 "SignRail" "signTexts" "[I", Cond.fieldLink RX0 28 "SignRail" "signShapes" "[I", Cond.fieldLink RX0 25 "SignRail" "signDistances" "[I", Cond.methodLink RX0 175 yX0_manyOf, Cond.static yX0_manyOf, Cond.code yX0_manyOf cX0_manyOf 1 (some .int), Cond.methodLink RX0 181 yX0_readGlyph, Cond.instanceMethod yX0_readGlyph, Cond.selects RX0 yX0_readGlyph yX0_readGlyph, Cond.code yX0_readGlyph cX0_readGlyph 6 (some .int), Cond.fieldLink RX0 9 "SignRail" "shapes" "[I", Cond.methodLink RX0 184 yX0_nearestGlyph, Cond.instanceMethod yX0_nearestGlyph, Cond.selects RX0 yX0_nearestGlyph yX0_nearestGlyph, Cond.code yX0_nearestGlyph cX0_nearestGlyph 5 (some .int)]
def wsX0_nextWay_r2 : List Cond := [Cond.methodLink RX0 63 yX0_differing, Cond.static yX0_differing, Cond.code yX0_differing cX0_differing 2 (some .int), Cond.methodLink RX0 167 yJ6_bitCount_0f7a4, Cond.static yJ6_bitCount_0f7a4, Cond.initialized RJ6, Cond.code yJ6_bitCount_0f7a4 cJ6_bitCount_0f7a4 1 (some .int), Cond.constant RJ6 265 (1431655765), Cond.constant RJ6 266 (858993459), Cond.constant RJ6 267 (252645135), Cond.methodLink RX0 94 yX0_pack, Cond.static yX0_pack, Cond.code yX0_pack cX0_pack 2 (some .int)]
def wsX0_nextWay : List Cond := .code yX0_nextWay cX0_nextWay 7 (some .int) :: ((wsX0_nextWay_r1 ++ wsX0_nextWay_r2) ++ wsX00)
def wsX0_stepsToArrive_r1 : List Cond := [Cond.fieldLink RX0 19 "SignRail" "names" "[I", Cond.fieldLink RX0 16 "SignRail" "leads" "[I", Cond.methodLink RX0 187 yX0_nextWay, Cond.instanceMethod yX0_nextWay, Cond.selects RX0 yX0_nextWay yX0_nextWay, Cond.initialized RX0, Cond.code yX0_nextWay cX0_nextWay 7 (some .int), Cond.methodLink RX0 88 yX0_wayOf, Cond.static yX0_wayOf, Cond.code yX0_wayOf cX0_wayOf 2 (some .int), Cond.methodLink RX0 120 yX0_readText, Cond.instanceMethod yX0_readText, Cond.selects RX0 yX0_readText yX0_readText, Cond.code yX0_readText cX0_readText 6 (some .int), Cond.fieldLink RX0 22 "SignRail" "signTexts" "[I", Cond.fieldLink RX0 28 "SignRail" "signShapes" "[I", Cond.fieldLink RX0 25 "SignRail" "signDistances" "[I", Cond.methodLink RX0 175 yX0_manyOf, Cond.static yX0_manyOf, Cond.code yX0_manyOf cX0_manyOf 1 (some .int), Cond.methodLink RX0 181 yX0_readGlyph, Cond.instanceMethod yX0_readGlyph, Cond.selects RX0 yX0_readGlyph yX0_readGlyph, Cond.code yX0_readGlyph cX0_readGlyph 6 (some .int)]
def wsX0_stepsToArrive_r2 : List Cond := [Cond.fieldLink RX0 9 "SignRail" "shapes" "[I", Cond.methodLink RX0 184 yX0_nearestGlyph, Cond.instanceMethod yX0_nearestGlyph, Cond.selects RX0 yX0_nearestGlyph yX0_nearestGlyph, Cond.code yX0_nearestGlyph cX0_nearestGlyph 5 (some .int), Cond.methodLink RX0 63 yX0_differing, Cond.static yX0_differing, Cond.code yX0_differing cX0_differing 2 (some .int), Cond.methodLink RX0 167 yJ6_bitCount_0f7a4, Cond.static yJ6_bitCount_0f7a4, Cond.initialized RJ6, Cond.code yJ6_bitCount_0f7a4 cJ6_bitCount_0f7a4 1 (some .int), Cond.constant RJ6 265 (1431655765), Cond.constant RJ6 266 (858993459), Cond.constant RJ6 267 (252645135), Cond.methodLink RX0 94 yX0_pack, Cond.static yX0_pack, Cond.code yX0_pack cX0_pack 2 (some .int)]
def wsX0_stepsToArrive : List Cond := .code yX0_stepsToArrive cX0_stepsToArrive 7 (some .int) :: ((wsX0_stepsToArrive_r1 ++ wsX0_stepsToArrive_r2) ++ wsX00)
def wsX0_walk_r1 : List Cond := [Cond.fieldLink RX0 35 "SignRail" "keptGoal" "I", Cond.fieldLink RX0 39 "SignRail" "keptSteps" "[I", Cond.methodLink RX0 85 yX0_requirePlace, Cond.static yX0_requirePlace, Cond.initialized RX0, Cond.code yX0_requirePlace cX0_requirePlace 1 none, Cond.classLink RX0 135 "java/lang/IndexOutOfBoundsException", Cond.initialized "java/lang/IndexOutOfBoundsException", Cond.methodLink RX0 91 yX0_requireText, Cond.static yX0_requireText, Cond.code yX0_requireText cX0_requireText 2 none, Cond.classLink RX0 71 "java/lang/IllegalArgumentException", Cond.initialized "java/lang/IllegalArgumentException", Cond.methodLink RX0 94 yX0_pack, Cond.static yX0_pack, Cond.code yX0_pack cX0_pack 2 (some .int), Cond.methodLink RX0 42 yJ7_fill_53178, Cond.static yJ7_fill_53178, Cond.initialized RJ7, Cond.code yJ7_fill_53178 cJ7_fill_53178 4 none, Cond.methodLink RX0 126 yX0_stepsToArrive, Cond.instanceMethod yX0_stepsToArrive, Cond.selects RX0 yX0_stepsToArrive yX0_stepsToArrive, Cond.code yX0_stepsToArrive cX0_stepsToArrive 7 (some .int)]
def wsX0_walk_r2 : List Cond := [Cond.fieldLink RX0 19 "SignRail" "names" "[I", Cond.fieldLink RX0 16 "SignRail" "leads" "[I", Cond.methodLink RX0 187 yX0_nextWay, Cond.instanceMethod yX0_nextWay, Cond.selects RX0 yX0_nextWay yX0_nextWay, Cond.code yX0_nextWay cX0_nextWay 7 (some .int), Cond.methodLink RX0 88 yX0_wayOf, Cond.static yX0_wayOf, Cond.code yX0_wayOf cX0_wayOf 2 (some .int), Cond.methodLink RX0 120 yX0_readText, Cond.instanceMethod yX0_readText, Cond.selects RX0 yX0_readText yX0_readText, Cond.code yX0_readText cX0_readText 6 (some .int), Cond.fieldLink RX0 22 "SignRail" "signTexts" "[I", Cond.fieldLink RX0 28 "SignRail" "signShapes" "[I", Cond.fieldLink RX0 25 "SignRail" "signDistances" "[I", Cond.methodLink RX0 175 yX0_manyOf, Cond.static yX0_manyOf, Cond.code yX0_manyOf cX0_manyOf 1 (some .int), Cond.methodLink RX0 181 yX0_readGlyph, Cond.instanceMethod yX0_readGlyph, Cond.selects RX0 yX0_readGlyph yX0_readGlyph, Cond.code yX0_readGlyph cX0_readGlyph 6 (some .int), Cond.fieldLink RX0 9 "SignRail" "shapes" "[I"]
def wsX0_walk_r3 : List Cond := [Cond.methodLink RX0 184 yX0_nearestGlyph, Cond.instanceMethod yX0_nearestGlyph, Cond.selects RX0 yX0_nearestGlyph yX0_nearestGlyph, Cond.code yX0_nearestGlyph cX0_nearestGlyph 5 (some .int), Cond.methodLink RX0 63 yX0_differing, Cond.static yX0_differing, Cond.code yX0_differing cX0_differing 2 (some .int), Cond.methodLink RX0 167 yJ6_bitCount_0f7a4, Cond.static yJ6_bitCount_0f7a4, Cond.initialized RJ6, Cond.code yJ6_bitCount_0f7a4 cJ6_bitCount_0f7a4 1 (some .int), Cond.constant RJ6 265 (1431655765), Cond.constant RJ6 266 (858993459), Cond.constant RJ6 267 (252645135)]
def wsX0_walk : List Cond := .code yX0_walk cX0_walk 5 (some .int) :: ((wsX0_walk_r1 ++ (wsX0_walk_r2 ++ wsX0_walk_r3)) ++ wsX00 ++ (vx_atS RX0 139 "java/lang/IndexOutOfBoundsException" ["java/lang/RuntimeException", "java/lang/Exception"]).filter goodWord ++ (vx_atS RX0 75 "java/lang/IllegalArgumentException" ["java/lang/RuntimeException", "java/lang/Exception"]).filter goodWord)
def wsX0_walkBySteps_r1 : List Cond := [Cond.methodLink RX0 85 yX0_requirePlace, Cond.static yX0_requirePlace, Cond.initialized RX0, Cond.code yX0_requirePlace cX0_requirePlace 1 none, Cond.classLink RX0 135 "java/lang/IndexOutOfBoundsException", Cond.initialized "java/lang/IndexOutOfBoundsException", Cond.methodLink RX0 91 yX0_requireText, Cond.static yX0_requireText, Cond.code yX0_requireText cX0_requireText 2 none, Cond.classLink RX0 71 "java/lang/IllegalArgumentException", Cond.initialized "java/lang/IllegalArgumentException", Cond.methodLink RX0 94 yX0_pack, Cond.static yX0_pack, Cond.code yX0_pack cX0_pack 2 (some .int), Cond.methodLink RX0 126 yX0_stepsToArrive, Cond.instanceMethod yX0_stepsToArrive, Cond.selects RX0 yX0_stepsToArrive yX0_stepsToArrive, Cond.code yX0_stepsToArrive cX0_stepsToArrive 7 (some .int), Cond.fieldLink RX0 19 "SignRail" "names" "[I", Cond.fieldLink RX0 16 "SignRail" "leads" "[I", Cond.methodLink RX0 187 yX0_nextWay, Cond.instanceMethod yX0_nextWay, Cond.selects RX0 yX0_nextWay yX0_nextWay, Cond.code yX0_nextWay cX0_nextWay 7 (some .int)]
def wsX0_walkBySteps_r2 : List Cond := [Cond.methodLink RX0 88 yX0_wayOf, Cond.static yX0_wayOf, Cond.code yX0_wayOf cX0_wayOf 2 (some .int), Cond.methodLink RX0 120 yX0_readText, Cond.instanceMethod yX0_readText, Cond.selects RX0 yX0_readText yX0_readText, Cond.code yX0_readText cX0_readText 6 (some .int), Cond.fieldLink RX0 22 "SignRail" "signTexts" "[I", Cond.fieldLink RX0 28 "SignRail" "signShapes" "[I", Cond.fieldLink RX0 25 "SignRail" "signDistances" "[I", Cond.methodLink RX0 175 yX0_manyOf, Cond.static yX0_manyOf, Cond.code yX0_manyOf cX0_manyOf 1 (some .int), Cond.methodLink RX0 181 yX0_readGlyph, Cond.instanceMethod yX0_readGlyph, Cond.selects RX0 yX0_readGlyph yX0_readGlyph, Cond.code yX0_readGlyph cX0_readGlyph 6 (some .int), Cond.fieldLink RX0 9 "SignRail" "shapes" "[I", Cond.methodLink RX0 184 yX0_nearestGlyph, Cond.instanceMethod yX0_nearestGlyph, Cond.selects RX0 yX0_nearestGlyph yX0_nearestGlyph, Cond.code yX0_nearestGlyph cX0_nearestGlyph 5 (some .int), Cond.methodLink RX0 63 yX0_differing, Cond.static yX0_differing]
def wsX0_walkBySteps_r3 : List Cond := [Cond.code yX0_differing cX0_differing 2 (some .int), Cond.methodLink RX0 167 yJ6_bitCount_0f7a4, Cond.static yJ6_bitCount_0f7a4, Cond.initialized RJ6, Cond.code yJ6_bitCount_0f7a4 cJ6_bitCount_0f7a4 1 (some .int), Cond.constant RJ6 265 (1431655765), Cond.constant RJ6 266 (858993459), Cond.constant RJ6 267 (252645135)]
def wsX0_walkBySteps : List Cond := .code yX0_walkBySteps cX0_walkBySteps 4 (some .int) :: ((wsX0_walkBySteps_r1 ++ (wsX0_walkBySteps_r2 ++ wsX0_walkBySteps_r3)) ++ wsX00 ++ (vx_atS RX0 139 "java/lang/IndexOutOfBoundsException" ["java/lang/RuntimeException", "java/lang/Exception"]).filter goodWord ++ (vx_atS RX0 75 "java/lang/IllegalArgumentException" ["java/lang/RuntimeException", "java/lang/Exception"]).filter goodWord)
def wsX0_placeReached_r1 : List Cond := [Cond.fieldLink RX0 19 "SignRail" "names" "[I", Cond.fieldLink RX0 16 "SignRail" "leads" "[I", Cond.methodLink RX0 187 yX0_nextWay, Cond.instanceMethod yX0_nextWay, Cond.selects RX0 yX0_nextWay yX0_nextWay, Cond.initialized RX0, Cond.code yX0_nextWay cX0_nextWay 7 (some .int), Cond.methodLink RX0 88 yX0_wayOf, Cond.static yX0_wayOf, Cond.code yX0_wayOf cX0_wayOf 2 (some .int), Cond.methodLink RX0 120 yX0_readText, Cond.instanceMethod yX0_readText, Cond.selects RX0 yX0_readText yX0_readText, Cond.code yX0_readText cX0_readText 6 (some .int), Cond.fieldLink RX0 22 "SignRail" "signTexts" "[I", Cond.fieldLink RX0 28 "SignRail" "signShapes" "[I", Cond.fieldLink RX0 25 "SignRail" "signDistances" "[I", Cond.methodLink RX0 175 yX0_manyOf, Cond.static yX0_manyOf, Cond.code yX0_manyOf cX0_manyOf 1 (some .int), Cond.methodLink RX0 181 yX0_readGlyph, Cond.instanceMethod yX0_readGlyph, Cond.selects RX0 yX0_readGlyph yX0_readGlyph, Cond.code yX0_readGlyph cX0_readGlyph 6 (some .int)]
def wsX0_placeReached_r2 : List Cond := [Cond.fieldLink RX0 9 "SignRail" "shapes" "[I", Cond.methodLink RX0 184 yX0_nearestGlyph, Cond.instanceMethod yX0_nearestGlyph, Cond.selects RX0 yX0_nearestGlyph yX0_nearestGlyph, Cond.code yX0_nearestGlyph cX0_nearestGlyph 5 (some .int), Cond.methodLink RX0 63 yX0_differing, Cond.static yX0_differing, Cond.code yX0_differing cX0_differing 2 (some .int), Cond.methodLink RX0 167 yJ6_bitCount_0f7a4, Cond.static yJ6_bitCount_0f7a4, Cond.initialized RJ6, Cond.code yJ6_bitCount_0f7a4 cJ6_bitCount_0f7a4 1 (some .int), Cond.constant RJ6 265 (1431655765), Cond.constant RJ6 266 (858993459), Cond.constant RJ6 267 (252645135), Cond.methodLink RX0 94 yX0_pack, Cond.static yX0_pack, Cond.code yX0_pack cX0_pack 2 (some .int)]
def wsX0_placeReached : List Cond := .code yX0_placeReached cX0_placeReached 8 (some .int) :: ((wsX0_placeReached_r1 ++ wsX0_placeReached_r2) ++ wsX00)
def wsX0_placeBehind_r1 : List Cond := [Cond.classLink RX0 71 "java/lang/IllegalArgumentException", Cond.initialized "java/lang/IllegalArgumentException", Cond.methodLink RX0 85 yX0_requirePlace, Cond.static yX0_requirePlace, Cond.initialized RX0, Cond.code yX0_requirePlace cX0_requirePlace 1 none, Cond.classLink RX0 135 "java/lang/IndexOutOfBoundsException", Cond.initialized "java/lang/IndexOutOfBoundsException", Cond.methodLink RX0 91 yX0_requireText, Cond.static yX0_requireText, Cond.code yX0_requireText cX0_requireText 2 none, Cond.methodLink RX0 94 yX0_pack, Cond.static yX0_pack, Cond.code yX0_pack cX0_pack 2 (some .int), Cond.methodLink RX0 131 yX0_placeReached, Cond.instanceMethod yX0_placeReached, Cond.selects RX0 yX0_placeReached yX0_placeReached, Cond.code yX0_placeReached cX0_placeReached 8 (some .int), Cond.fieldLink RX0 19 "SignRail" "names" "[I", Cond.fieldLink RX0 16 "SignRail" "leads" "[I", Cond.methodLink RX0 187 yX0_nextWay, Cond.instanceMethod yX0_nextWay, Cond.selects RX0 yX0_nextWay yX0_nextWay, Cond.code yX0_nextWay cX0_nextWay 7 (some .int)]
def wsX0_placeBehind_r2 : List Cond := [Cond.methodLink RX0 88 yX0_wayOf, Cond.static yX0_wayOf, Cond.code yX0_wayOf cX0_wayOf 2 (some .int), Cond.methodLink RX0 120 yX0_readText, Cond.instanceMethod yX0_readText, Cond.selects RX0 yX0_readText yX0_readText, Cond.code yX0_readText cX0_readText 6 (some .int), Cond.fieldLink RX0 22 "SignRail" "signTexts" "[I", Cond.fieldLink RX0 28 "SignRail" "signShapes" "[I", Cond.fieldLink RX0 25 "SignRail" "signDistances" "[I", Cond.methodLink RX0 175 yX0_manyOf, Cond.static yX0_manyOf, Cond.code yX0_manyOf cX0_manyOf 1 (some .int), Cond.methodLink RX0 181 yX0_readGlyph, Cond.instanceMethod yX0_readGlyph, Cond.selects RX0 yX0_readGlyph yX0_readGlyph, Cond.code yX0_readGlyph cX0_readGlyph 6 (some .int), Cond.fieldLink RX0 9 "SignRail" "shapes" "[I", Cond.methodLink RX0 184 yX0_nearestGlyph, Cond.instanceMethod yX0_nearestGlyph, Cond.selects RX0 yX0_nearestGlyph yX0_nearestGlyph, Cond.code yX0_nearestGlyph cX0_nearestGlyph 5 (some .int), Cond.methodLink RX0 63 yX0_differing, Cond.static yX0_differing]
def wsX0_placeBehind_r3 : List Cond := [Cond.code yX0_differing cX0_differing 2 (some .int), Cond.methodLink RX0 167 yJ6_bitCount_0f7a4, Cond.static yJ6_bitCount_0f7a4, Cond.initialized RJ6, Cond.code yJ6_bitCount_0f7a4 cJ6_bitCount_0f7a4 1 (some .int), Cond.constant RJ6 265 (1431655765), Cond.constant RJ6 266 (858993459), Cond.constant RJ6 267 (252645135)]
def wsX0_placeBehind : List Cond := .code yX0_placeBehind cX0_placeBehind 5 (some .int) :: ((wsX0_placeBehind_r1 ++ (wsX0_placeBehind_r2 ++ wsX0_placeBehind_r3)) ++ wsX00 ++ (vx_atS RX0 75 "java/lang/IllegalArgumentException" ["java/lang/RuntimeException", "java/lang/Exception"]).filter goodWord ++ (vx_atS RX0 139 "java/lang/IndexOutOfBoundsException" ["java/lang/RuntimeException", "java/lang/Exception"]).filter goodWord)
def wsJ9_abs_0f7a4 : List Cond := .code yJ9_abs_0f7a4 cJ9_abs_0f7a4 1 (some .int) :: ([])
def wsJ9_max_7cf53 : List Cond := .code yJ9_max_7cf53 cJ9_max_7cf53 2 (some .int) :: ([])
def wsL_cell : List Cond := .code yL_cell cL_cell 2 (some .int) :: ([])
def wsL_low : List Cond := .code yL_low cL_low 2 (some .int) :: ([.constant RL 7 (2147483647)])
def wsL_isWalk_r1 : List Cond := [Cond.methodLink RL 8 yX0_walk, Cond.instanceMethod yX0_walk, Cond.selects RX0 yX0_walk yX0_walk, Cond.initialized RX0, Cond.code yX0_walk cX0_walk 5 (some .int), Cond.fieldLink RX0 35 "SignRail" "keptGoal" "I", Cond.fieldLink RX0 39 "SignRail" "keptSteps" "[I", Cond.methodLink RX0 85 yX0_requirePlace, Cond.static yX0_requirePlace, Cond.code yX0_requirePlace cX0_requirePlace 1 none, Cond.classLink RX0 135 "java/lang/IndexOutOfBoundsException", Cond.initialized "java/lang/IndexOutOfBoundsException", Cond.methodLink RX0 91 yX0_requireText, Cond.static yX0_requireText, Cond.code yX0_requireText cX0_requireText 2 none, Cond.classLink RX0 71 "java/lang/IllegalArgumentException", Cond.initialized "java/lang/IllegalArgumentException", Cond.methodLink RX0 94 yX0_pack, Cond.static yX0_pack, Cond.code yX0_pack cX0_pack 2 (some .int), Cond.methodLink RX0 42 yJ7_fill_53178, Cond.static yJ7_fill_53178, Cond.initialized RJ7, Cond.code yJ7_fill_53178 cJ7_fill_53178 4 none]
def wsL_isWalk_r2 : List Cond := [Cond.methodLink RX0 126 yX0_stepsToArrive, Cond.instanceMethod yX0_stepsToArrive, Cond.selects RX0 yX0_stepsToArrive yX0_stepsToArrive, Cond.code yX0_stepsToArrive cX0_stepsToArrive 7 (some .int), Cond.fieldLink RX0 19 "SignRail" "names" "[I", Cond.fieldLink RX0 16 "SignRail" "leads" "[I", Cond.methodLink RX0 187 yX0_nextWay, Cond.instanceMethod yX0_nextWay, Cond.selects RX0 yX0_nextWay yX0_nextWay, Cond.code yX0_nextWay cX0_nextWay 7 (some .int), Cond.methodLink RX0 88 yX0_wayOf, Cond.static yX0_wayOf, Cond.code yX0_wayOf cX0_wayOf 2 (some .int), Cond.methodLink RX0 120 yX0_readText, Cond.instanceMethod yX0_readText, Cond.selects RX0 yX0_readText yX0_readText, Cond.code yX0_readText cX0_readText 6 (some .int), Cond.fieldLink RX0 22 "SignRail" "signTexts" "[I", Cond.fieldLink RX0 28 "SignRail" "signShapes" "[I", Cond.fieldLink RX0 25 "SignRail" "signDistances" "[I", Cond.methodLink RX0 175 yX0_manyOf, Cond.static yX0_manyOf, Cond.code yX0_manyOf cX0_manyOf 1 (some .int), Cond.methodLink RX0 181 yX0_readGlyph]
def wsL_isWalk_r3 : List Cond := [Cond.instanceMethod yX0_readGlyph, Cond.selects RX0 yX0_readGlyph yX0_readGlyph, Cond.code yX0_readGlyph cX0_readGlyph 6 (some .int), Cond.fieldLink RX0 9 "SignRail" "shapes" "[I", Cond.methodLink RX0 184 yX0_nearestGlyph, Cond.instanceMethod yX0_nearestGlyph, Cond.selects RX0 yX0_nearestGlyph yX0_nearestGlyph, Cond.code yX0_nearestGlyph cX0_nearestGlyph 5 (some .int), Cond.methodLink RX0 63 yX0_differing, Cond.static yX0_differing, Cond.code yX0_differing cX0_differing 2 (some .int), Cond.methodLink RX0 167 yJ6_bitCount_0f7a4, Cond.static yJ6_bitCount_0f7a4, Cond.initialized RJ6, Cond.code yJ6_bitCount_0f7a4 cJ6_bitCount_0f7a4 1 (some .int), Cond.constant RJ6 265 (1431655765), Cond.constant RJ6 266 (858993459), Cond.constant RJ6 267 (252645135), Cond.methodLink RL 14 yX0_placeBehind, Cond.instanceMethod yX0_placeBehind, Cond.selects RX0 yX0_placeBehind yX0_placeBehind, Cond.code yX0_placeBehind cX0_placeBehind 5 (some .int), Cond.methodLink RX0 131 yX0_placeReached, Cond.instanceMethod yX0_placeReached]
def wsL_isWalk_r4 : List Cond := [Cond.selects RX0 yX0_placeReached yX0_placeReached, Cond.code yX0_placeReached cX0_placeReached 8 (some .int), Cond.methodLink RL 18 yX0_walkBySteps, Cond.instanceMethod yX0_walkBySteps, Cond.selects RX0 yX0_walkBySteps yX0_walkBySteps, Cond.code yX0_walkBySteps cX0_walkBySteps 4 (some .int)]
def wsL_isWalk : List Cond := .code yL_isWalk cL_isWalk 7 (some .boolean) :: ((wsL_isWalk_r1 ++ (wsL_isWalk_r2 ++ (wsL_isWalk_r3 ++ wsL_isWalk_r4))) ++ wsX00 ++ (vx_atS RX0 139 "java/lang/IndexOutOfBoundsException" ["java/lang/RuntimeException", "java/lang/Exception"]).filter goodWord ++ (vx_atS RX0 75 "java/lang/IllegalArgumentException" ["java/lang/RuntimeException", "java/lang/Exception"]).filter goodWord)
def wsL_areGlyphs_r1 : List Cond := [Cond.methodLink RL 21 yX0_difference, Cond.instanceMethod yX0_difference, Cond.selects RX0 yX0_difference yX0_difference, Cond.initialized RX0, Cond.code yX0_difference cX0_difference 3 (some .int), Cond.fieldLink RX0 9 "SignRail" "shapes" "[I", Cond.methodLink RX0 48 yX0_requireGlyph, Cond.static yX0_requireGlyph, Cond.code yX0_requireGlyph cX0_requireGlyph 1 none, Cond.classLink RX0 135 "java/lang/IndexOutOfBoundsException", Cond.initialized "java/lang/IndexOutOfBoundsException", Cond.methodLink RX0 63 yX0_differing, Cond.static yX0_differing, Cond.code yX0_differing cX0_differing 2 (some .int), Cond.methodLink RX0 167 yJ6_bitCount_0f7a4, Cond.static yJ6_bitCount_0f7a4, Cond.initialized RJ6, Cond.code yJ6_bitCount_0f7a4 cJ6_bitCount_0f7a4 1 (some .int), Cond.constant RJ6 265 (1431655765), Cond.constant RJ6 266 (858993459), Cond.constant RJ6 267 (252645135), Cond.methodLink RL 25 yX0_width, Cond.instanceMethod yX0_width, Cond.selects RX0 yX0_width yX0_width]
def wsL_areGlyphs_r2 : List Cond := [Cond.code yX0_width cX0_width 2 (some .int), Cond.methodLink RX0 67 yX0_shapeWidth, Cond.static yX0_shapeWidth, Cond.code yX0_shapeWidth cX0_shapeWidth 4 (some .int), Cond.methodLink RX0 172 yX0_hasColumn, Cond.static yX0_hasColumn, Cond.code yX0_hasColumn cX0_hasColumn 2 (some .boolean), Cond.methodLink RX0 56 yX0_lineCells, Cond.static yX0_lineCells, Cond.code yX0_lineCells cX0_lineCells 9 (some .int), Cond.methodLink RX0 154 Lib.Math.abs.name, Cond.static Lib.Math.abs.name, Cond.initialized "java/lang/Math", Cond.code Lib.Math.abs.name Lib.Math.abs.code 1 (some .int), Cond.methodLink RX0 161 Lib.Math.max.name, Cond.static Lib.Math.max.name, Cond.code Lib.Math.max.name Lib.Math.max.code 2 (some .int), Cond.methodLink RX0 164 yX0_direction, Cond.static yX0_direction, Cond.code yX0_direction cX0_direction 2 (some .int)]
def wsL_areGlyphs : List Cond := .code yL_areGlyphs cL_areGlyphs 4 (some .boolean) :: ((wsL_areGlyphs_r1 ++ wsL_areGlyphs_r2) ++ wsX00 ++ (vx_atS RX0 139 "java/lang/IndexOutOfBoundsException" ["java/lang/RuntimeException", "java/lang/Exception"]).filter goodWord)
def wsL_law0_r1 : List Cond := [Cond.classLink RL 9 RX0, Cond.instantiable RX0 10, Cond.initialized RX0, Cond.arrayClass .int, Cond.methodLink RL 29 yX0_init, Cond.instanceMethod yX0_init, Cond.code yX0_init cX0_init 1 none, Cond.methodLink RX0 3 objectInit, Cond.instanceMethod objectInit, Cond.code objectInit ⟨#[0xb1]⟩ 1 none, Cond.fieldLink RX0 9 "SignRail" "shapes" "[I", Cond.fieldLink RX0 13 "SignRail" "spaces" "[I", Cond.fieldLink RX0 16 "SignRail" "leads" "[I", Cond.fieldLink RX0 19 "SignRail" "names" "[I", Cond.fieldLink RX0 22 "SignRail" "signTexts" "[I", Cond.fieldLink RX0 25 "SignRail" "signDistances" "[I", Cond.fieldLink RX0 28 "SignRail" "signShapes" "[I", Cond.fieldLink RX0 31 "SignRail" "costSoFar" "J", Cond.fieldLink RX0 35 "SignRail" "keptGoal" "I", Cond.fieldLink RX0 39 "SignRail" "keptSteps" "[I", Cond.methodLink RX0 42 yJ7_fill_53178, Cond.static yJ7_fill_53178, Cond.initialized RJ7, Cond.code yJ7_fill_53178 cJ7_fill_53178 4 none]
def wsL_law0_r2 : List Cond := [Cond.methodLink RL 30 yL_cell, Cond.static yL_cell, Cond.initialized RL, Cond.code yL_cell cL_cell 2 (some .int), Cond.methodLink RL 36 yL_low, Cond.static yL_low, Cond.code yL_low cL_low 2 (some .int), Cond.constant RL 7 (2147483647), Cond.methodLink RL 39 yX0_stroke, Cond.instanceMethod yX0_stroke, Cond.selects RX0 yX0_stroke yX0_stroke, Cond.code yX0_stroke cX0_stroke 10 (some .int), Cond.methodLink RX0 48 yX0_requireGlyph, Cond.static yX0_requireGlyph, Cond.code yX0_requireGlyph cX0_requireGlyph 1 none, Cond.classLink RX0 135 "java/lang/IndexOutOfBoundsException", Cond.initialized "java/lang/IndexOutOfBoundsException", Cond.methodLink RX0 52 yX0_requireLine, Cond.static yX0_requireLine, Cond.code yX0_requireLine cX0_requireLine 6 none, Cond.classLink RX0 71 "java/lang/IllegalArgumentException", Cond.initialized "java/lang/IllegalArgumentException", Cond.methodLink RX0 154 Lib.Math.abs.name, Cond.static Lib.Math.abs.name]
def wsL_law0_r3 : List Cond := [Cond.initialized "java/lang/Math", Cond.code Lib.Math.abs.name Lib.Math.abs.code 1 (some .int), Cond.methodLink RX0 148 yX0_isCell, Cond.static yX0_isCell, Cond.code yX0_isCell cX0_isCell 2 (some .boolean), Cond.methodLink RX0 56 yX0_lineCells, Cond.static yX0_lineCells, Cond.code yX0_lineCells cX0_lineCells 9 (some .int), Cond.methodLink RX0 161 Lib.Math.max.name, Cond.static Lib.Math.max.name, Cond.code Lib.Math.max.name Lib.Math.max.code 2 (some .int), Cond.methodLink RX0 164 yX0_direction, Cond.static yX0_direction, Cond.code yX0_direction cX0_direction 2 (some .int), Cond.methodLink RX0 60 yX0_forgetWalks, Cond.instanceMethod yX0_forgetWalks, Cond.selects RX0 yX0_forgetWalks yX0_forgetWalks, Cond.code yX0_forgetWalks cX0_forgetWalks 1 none, Cond.methodLink RX0 63 yX0_differing, Cond.static yX0_differing, Cond.code yX0_differing cX0_differing 2 (some .int), Cond.methodLink RX0 167 yJ6_bitCount_0f7a4, Cond.static yJ6_bitCount_0f7a4, Cond.initialized RJ6]
def wsL_law0_r4 : List Cond := [Cond.code yJ6_bitCount_0f7a4 cJ6_bitCount_0f7a4 1 (some .int), Cond.constant RJ6 265 (1431655765), Cond.constant RJ6 266 (858993459), Cond.constant RJ6 267 (252645135), Cond.methodLink RL 43 yX0_space, Cond.instanceMethod yX0_space, Cond.selects RX0 yX0_space yX0_space, Cond.code yX0_space cX0_space 6 (some .int), Cond.methodLink RX0 78 yX0_pairOf, Cond.static yX0_pairOf, Cond.code yX0_pairOf cX0_pairOf 2 (some .int), Cond.methodLink RL 46 yX0_lead, Cond.instanceMethod yX0_lead, Cond.selects RX0 yX0_lead yX0_lead, Cond.code yX0_lead cX0_lead 6 (some .int), Cond.methodLink RX0 81 yX0_requireExit, Cond.static yX0_requireExit, Cond.code yX0_requireExit cX0_requireExit 2 none, Cond.methodLink RX0 85 yX0_requirePlace, Cond.static yX0_requirePlace, Cond.code yX0_requirePlace cX0_requirePlace 1 none, Cond.methodLink RX0 88 yX0_wayOf, Cond.static yX0_wayOf, Cond.code yX0_wayOf cX0_wayOf 2 (some .int)]
def wsL_law0_r5 : List Cond := [Cond.methodLink RL 49 yX0_name, Cond.instanceMethod yX0_name, Cond.selects RX0 yX0_name yX0_name, Cond.code yX0_name cX0_name 4 none, Cond.methodLink RX0 91 yX0_requireText, Cond.static yX0_requireText, Cond.code yX0_requireText cX0_requireText 2 none, Cond.methodLink RX0 94 yX0_pack, Cond.static yX0_pack, Cond.code yX0_pack cX0_pack 2 (some .int), Cond.methodLink RL 8 yX0_walk, Cond.instanceMethod yX0_walk, Cond.selects RX0 yX0_walk yX0_walk, Cond.code yX0_walk cX0_walk 5 (some .int), Cond.methodLink RX0 126 yX0_stepsToArrive, Cond.instanceMethod yX0_stepsToArrive, Cond.selects RX0 yX0_stepsToArrive yX0_stepsToArrive, Cond.code yX0_stepsToArrive cX0_stepsToArrive 7 (some .int), Cond.methodLink RX0 187 yX0_nextWay, Cond.instanceMethod yX0_nextWay, Cond.selects RX0 yX0_nextWay yX0_nextWay, Cond.code yX0_nextWay cX0_nextWay 7 (some .int), Cond.methodLink RX0 120 yX0_readText, Cond.instanceMethod yX0_readText]
def wsL_law0_r6 : List Cond := [Cond.selects RX0 yX0_readText yX0_readText, Cond.code yX0_readText cX0_readText 6 (some .int), Cond.methodLink RX0 175 yX0_manyOf, Cond.static yX0_manyOf, Cond.code yX0_manyOf cX0_manyOf 1 (some .int), Cond.methodLink RX0 181 yX0_readGlyph, Cond.instanceMethod yX0_readGlyph, Cond.selects RX0 yX0_readGlyph yX0_readGlyph, Cond.code yX0_readGlyph cX0_readGlyph 6 (some .int), Cond.methodLink RX0 184 yX0_nearestGlyph, Cond.instanceMethod yX0_nearestGlyph, Cond.selects RX0 yX0_nearestGlyph yX0_nearestGlyph, Cond.code yX0_nearestGlyph cX0_nearestGlyph 5 (some .int), Cond.methodLink RL 53 yX0_textWidth, Cond.instanceMethod yX0_textWidth, Cond.selects RX0 yX0_textWidth yX0_textWidth, Cond.code yX0_textWidth cX0_textWidth 3 (some .int), Cond.methodLink RX0 97 yX0_packedWidth, Cond.instanceMethod yX0_packedWidth, Cond.selects RX0 yX0_packedWidth yX0_packedWidth, Cond.code yX0_packedWidth cX0_packedWidth 5 (some .int), Cond.methodLink RX0 178 yX0_glyphAt, Cond.static yX0_glyphAt, Cond.code yX0_glyphAt cX0_glyphAt 2 (some .int)]
def wsL_law0_r7 : List Cond := [Cond.methodLink RX0 67 yX0_shapeWidth, Cond.static yX0_shapeWidth, Cond.code yX0_shapeWidth cX0_shapeWidth 4 (some .int), Cond.methodLink RX0 172 yX0_hasColumn, Cond.static yX0_hasColumn, Cond.code yX0_hasColumn cX0_hasColumn 2 (some .boolean), Cond.methodLink RL 56 yX0_cut, Cond.instanceMethod yX0_cut, Cond.selects RX0 yX0_cut yX0_cut, Cond.code yX0_cut cX0_cut 9 (some .int), Cond.classLink RX0 105 "java/lang/IllegalStateException", Cond.initialized "java/lang/IllegalStateException", Cond.methodLink RX0 102 yX0_plateFor, Cond.instanceMethod yX0_plateFor, Cond.selects RX0 yX0_plateFor yX0_plateFor, Cond.code yX0_plateFor cX0_plateFor 3 (some .int), Cond.methodLink RX0 110 yX0_engrave, Cond.instanceMethod yX0_engrave, Cond.selects RX0 yX0_engrave yX0_engrave, Cond.code yX0_engrave cX0_engrave 5 none, Cond.methodLink RL 60 yX0_isOld, Cond.instanceMethod yX0_isOld, Cond.selects RX0 yX0_isOld yX0_isOld, Cond.code yX0_isOld cX0_isOld 3 (some .boolean)]
def wsL_law0_r8 : List Cond := [Cond.methodLink RX0 113 yX0_isOutdated, Cond.instanceMethod yX0_isOutdated, Cond.selects RX0 yX0_isOutdated yX0_isOutdated, Cond.code yX0_isOutdated cX0_isOutdated 4 (some .boolean), Cond.methodLink RL 64 yX0_remove, Cond.instanceMethod yX0_remove, Cond.selects RX0 yX0_remove yX0_remove, Cond.code yX0_remove cX0_remove 5 (some .boolean), Cond.methodLink RL 67 yL_isWalk, Cond.static yL_isWalk, Cond.code yL_isWalk cL_isWalk 7 (some .boolean), Cond.methodLink RL 14 yX0_placeBehind, Cond.instanceMethod yX0_placeBehind, Cond.selects RX0 yX0_placeBehind yX0_placeBehind, Cond.code yX0_placeBehind cX0_placeBehind 5 (some .int), Cond.methodLink RX0 131 yX0_placeReached, Cond.instanceMethod yX0_placeReached, Cond.selects RX0 yX0_placeReached yX0_placeReached, Cond.code yX0_placeReached cX0_placeReached 8 (some .int), Cond.methodLink RL 18 yX0_walkBySteps, Cond.instanceMethod yX0_walkBySteps, Cond.selects RX0 yX0_walkBySteps yX0_walkBySteps, Cond.code yX0_walkBySteps cX0_walkBySteps 4 (some .int), Cond.methodLink RL 71 yX0_read]
def wsL_law0_r9 : List Cond := [Cond.instanceMethod yX0_read, Cond.selects RX0 yX0_read yX0_read, Cond.code yX0_read cX0_read 4 (some .int), Cond.methodLink RX0 123 yX0_numberOf, Cond.static yX0_numberOf, Cond.code yX0_numberOf cX0_numberOf 1 (some .int), Cond.methodLink RL 74 yX0_cost, Cond.instanceMethod yX0_cost, Cond.selects RX0 yX0_cost yX0_cost, Cond.code yX0_cost cX0_cost 1 (some .long), Cond.methodLink RL 78 yL_areGlyphs, Cond.static yL_areGlyphs, Cond.code yL_areGlyphs cL_areGlyphs 4 (some .boolean), Cond.methodLink RL 21 yX0_difference, Cond.instanceMethod yX0_difference, Cond.selects RX0 yX0_difference yX0_difference, Cond.code yX0_difference cX0_difference 3 (some .int), Cond.methodLink RL 25 yX0_width, Cond.instanceMethod yX0_width, Cond.selects RX0 yX0_width yX0_width, Cond.code yX0_width cX0_width 2 (some .int)]
def wsL_law0 : List Cond := (wsL_law0_r1 ++ (wsL_law0_r2 ++ (wsL_law0_r3 ++ (wsL_law0_r4 ++ (wsL_law0_r5 ++ (wsL_law0_r6 ++ (wsL_law0_r7 ++ (wsL_law0_r8 ++ wsL_law0_r9)))))))) ++ wsX00 ++ ([] : List Cond)
def wsL_law : List Cond := wsL_law0 ++ (vx_atS RX0 139 "java/lang/IndexOutOfBoundsException" ["java/lang/RuntimeException", "java/lang/Exception"]).filter goodWord ++ (vx_atS RX0 75 "java/lang/IllegalArgumentException" ["java/lang/RuntimeException", "java/lang/Exception"]).filter goodWord ++ (vx_atS RX0 109 "java/lang/IllegalStateException" ["java/lang/RuntimeException", "java/lang/Exception"]).filter goodWord
abbrev vwCl : List vw_C := [(RX0, TX0, 10)]
end
section
set_option maxRecDepth 20000 in
theorem wsL_law0_r1_in : ∀ w ∈ wsL_law0_r1, w ∈ lw_tbl := fun w h => (goodIn_p wsL_law0_r1 [27, 30, 33] (by decide +kernel) (by decide +kernel) w h).1
set_option maxRecDepth 20000 in
theorem wsL_law0_r2_in : ∀ w ∈ wsL_law0_r2, w ∈ lw_tbl := fun w h => (goodIn_p wsL_law0_r2 [322, 325, 69, 72, 143] (by decide +kernel) (by decide +kernel) w h).1
set_option maxRecDepth 20000 in
theorem wsL_law0_r3_in : ∀ w ∈ wsL_law0_r3, w ∈ lw_tbl := fun w h => (goodIn_p wsL_law0_r3 [165, 146, 169, 172, 175, 179, 182] (by decide +kernel) (by decide +kernel) w h).1
set_option maxRecDepth 20000 in
theorem wsL_law0_r4_in : ∀ w ∈ wsL_law0_r4, w ∈ lw_tbl := fun w h => (goodIn_p wsL_law0_r4 [185, 192, 196, 200, 203, 206, 211] (by decide +kernel) (by decide +kernel) w h).1
end
section
set_option maxRecDepth 20000 in
theorem wsL_law0_r5_in : ∀ w ∈ wsL_law0_r5, w ∈ lw_tbl := fun w h => (goodIn_p wsL_law0_r5 [215, 218, 223, 311, 315, 319] (by decide +kernel) (by decide +kernel) w h).1
set_option maxRecDepth 20000 in
theorem wsL_law0_r6_in : ∀ w ∈ wsL_law0_r6, w ∈ lw_tbl := fun w h => (goodIn_p wsL_law0_r6 [292, 234, 296, 300, 227, 231, 237] (by decide +kernel) (by decide +kernel) w h).1
set_option maxRecDepth 20000 in
theorem wsL_law0_r7_in : ∀ w ∈ wsL_law0_r7, w ∈ lw_tbl := fun w h => (goodIn_p wsL_law0_r7 [240, 243, 247, 252, 272, 280] (by decide +kernel) (by decide +kernel) w h).1
set_option maxRecDepth 20000 in
theorem wsL_law0_r8_in : ∀ w ∈ wsL_law0_r8, w ∈ lw_tbl := fun w h => (goodIn_p wsL_law0_r8 [284, 276, 329, 333, 338, 342] (by decide +kernel) (by decide +kernel) w h).1
set_option maxRecDepth 20000 in
theorem wsL_law0_r9_in : ∀ w ∈ wsL_law0_r9, w ∈ lw_tbl := fun w h => (goodIn_p wsL_law0_r9 [288, 303, 307, 345, 349, 353] (by decide +kernel) (by decide +kernel) w h).1
theorem wsL_law_R_in : ∀ w ∈ (wsL_law0_r1 ++ (wsL_law0_r2 ++ (wsL_law0_r3 ++ (wsL_law0_r4 ++ (wsL_law0_r5 ++ (wsL_law0_r6 ++ (wsL_law0_r7 ++ (wsL_law0_r8 ++ (wsL_law0_r9))))))))), w ∈ lw_tbl := fun w h => (List.mem_append.mp h).elim (fun h => wsL_law0_r1_in w h) (fun h => (List.mem_append.mp h).elim (fun h => wsL_law0_r2_in w h) (fun h => (List.mem_append.mp h).elim (fun h => wsL_law0_r3_in w h) (fun h => (List.mem_append.mp h).elim (fun h => wsL_law0_r4_in w h) (fun h => (List.mem_append.mp h).elim (fun h => wsL_law0_r5_in w h) (fun h => (List.mem_append.mp h).elim (fun h => wsL_law0_r6_in w h) (fun h => (List.mem_append.mp h).elim (fun h => wsL_law0_r7_in w h) (fun h => (List.mem_append.mp h).elim (fun h => wsL_law0_r8_in w h) (fun h => wsL_law0_r9_in w h))))))))
theorem wsX00_tb : ∀ w ∈ wsX00, w ∈ lw_tbl := by decide +kernel
theorem wsL_law_in0 : ∀ w ∈ wsL_law0, w ∈ lw_tbl := fun w h => (List.mem_append.mp h).elim (fun h => (List.mem_append.mp h).elim (fun h => wsL_law_R_in w h) (fun h => wsX00_tb w h)) (fun h => nomatch h)
theorem wsL_law_x0 : ∀ w ∈ (vx_atS RX0 139 "java/lang/IndexOutOfBoundsException" ["java/lang/RuntimeException", "java/lang/Exception"]).filter goodWord, w ∈ lw_tbl := by decide +kernel
theorem wsL_law_x1 : ∀ w ∈ (vx_atS RX0 75 "java/lang/IllegalArgumentException" ["java/lang/RuntimeException", "java/lang/Exception"]).filter goodWord, w ∈ lw_tbl := by decide +kernel
theorem wsL_law_x2 : ∀ w ∈ (vx_atS RX0 109 "java/lang/IllegalStateException" ["java/lang/RuntimeException", "java/lang/Exception"]).filter goodWord, w ∈ lw_tbl := by decide +kernel
theorem wsL_law_in : ∀ w ∈ wsL_law, w ∈ lw_tbl := fun w h => (List.mem_append.mp h).elim (fun h => (List.mem_append.mp h).elim (fun h => (List.mem_append.mp h).elim (fun h => wsL_law_in0 w h) (fun h => wsL_law_x0 w h)) (fun h => wsL_law_x1 w h)) (fun h => wsL_law_x2 w h)
theorem inlX0 : ∀ w ∈ wsX00, w ∈ wsL_law := fun _ h => List.mem_append_left _ (List.mem_append_left _ (List.mem_append_left _ (List.mem_append_left _ (List.mem_append_right _ h))))
theorem inX0 : ∀ w ∈ wsX00, w ∈ lw_tbl := fun w h => wsL_law_in w (inlX0 w h)
theorem inX1 : ∀ w ∈ wsX10, w ∈ lw_tbl := by decide +kernel
theorem inJx145de : ∀ w ∈ wsJx145de0, w ∈ lw_tbl := by decide +kernel
theorem inJ6 : ∀ w ∈ wsJ60, w ∈ lw_tbl := by decide +kernel
theorem inJ9 : ∀ w ∈ wsJ90, w ∈ lw_tbl := by decide +kernel
theorem inJ0 : ∀ w ∈ wsJ00, w ∈ lw_tbl := by decide +kernel
theorem inJ7 : ∀ w ∈ wsJ70, w ∈ lw_tbl := by decide +kernel
end
section
set_option maxRecDepth 20000 in
theorem ggX0_init_J7_fill_53178 : GoodIn wsX0_init wsJ7_fill_53178 := goodIn_r _ [18] (by decide +kernel) (by decide +kernel)
set_option maxRecDepth 20000 in
theorem gX0_init_J7_fill_53178 : GoodIn wsX0_init (va_wsS RX0 42 yJ7_fill_53178 wsJ7_fill_53178) := goodIn_app (goodIn_of _ (by decide +kernel)) ggX0_init_J7_fill_53178
theorem dX0_init_0 : decode cX0_init 0 = .ok (.aload_n 0, 1) := by decide +kernel
theorem dX0_init_1 : decode cX0_init 1 = .ok (.invokespecial 3, 3) := by decide +kernel
theorem dX0_init_4 : decode cX0_init 4 = .ok (.aload_n 0, 1) := by decide +kernel
theorem dX0_init_5 : decode cX0_init 5 = .ok (.bipush 8, 2) := by decide +kernel
theorem dX0_init_7 : decode cX0_init 7 = .ok (.newarray .int, 2) := by decide +kernel
theorem dX0_init_9 : decode cX0_init 9 = .ok (.putfield 9, 3) := by decide +kernel
theorem dX0_init_12 : decode cX0_init 12 = .ok (.aload_n 0, 1) := by decide +kernel
theorem dX0_init_13 : decode cX0_init 13 = .ok (.bipush 64, 2) := by decide +kernel
theorem dX0_init_15 : decode cX0_init 15 = .ok (.newarray .int, 2) := by decide +kernel
theorem dX0_init_17 : decode cX0_init 17 = .ok (.putfield 13, 3) := by decide +kernel
theorem dX0_init_20 : decode cX0_init 20 = .ok (.aload_n 0, 1) := by decide +kernel
theorem dX0_init_21 : decode cX0_init 21 = .ok (.bipush 32, 2) := by decide +kernel
theorem dX0_init_23 : decode cX0_init 23 = .ok (.newarray .int, 2) := by decide +kernel
theorem dX0_init_25 : decode cX0_init 25 = .ok (.putfield 16, 3) := by decide +kernel
theorem dX0_init_28 : decode cX0_init 28 = .ok (.aload_n 0, 1) := by decide +kernel
theorem dX0_init_29 : decode cX0_init 29 = .ok (.bipush 8, 2) := by decide +kernel
theorem dX0_init_31 : decode cX0_init 31 = .ok (.newarray .int, 2) := by decide +kernel
theorem dX0_init_33 : decode cX0_init 33 = .ok (.putfield 19, 3) := by decide +kernel
theorem dX0_init_36 : decode cX0_init 36 = .ok (.aload_n 0, 1) := by decide +kernel
theorem dX0_init_37 : decode cX0_init 37 = .ok (.bipush 32, 2) := by decide +kernel
theorem dX0_init_39 : decode cX0_init 39 = .ok (.newarray .int, 2) := by decide +kernel
theorem dX0_init_41 : decode cX0_init 41 = .ok (.putfield 22, 3) := by decide +kernel
theorem dX0_init_44 : decode cX0_init 44 = .ok (.aload_n 0, 1) := by decide +kernel
theorem dX0_init_45 : decode cX0_init 45 = .ok (.bipush 32, 2) := by decide +kernel
theorem dX0_init_47 : decode cX0_init 47 = .ok (.newarray .int, 2) := by decide +kernel
theorem dX0_init_49 : decode cX0_init 49 = .ok (.putfield 25, 3) := by decide +kernel
theorem dX0_init_52 : decode cX0_init 52 = .ok (.aload_n 0, 1) := by decide +kernel
theorem dX0_init_53 : decode cX0_init 53 = .ok (.sipush 160, 3) := by decide +kernel
theorem dX0_init_56 : decode cX0_init 56 = .ok (.newarray .int, 2) := by decide +kernel
theorem dX0_init_58 : decode cX0_init 58 = .ok (.putfield 28, 3) := by decide +kernel
theorem dX0_init_61 : decode cX0_init 61 = .ok (.aload_n 0, 1) := by decide +kernel
theorem dX0_init_62 : decode cX0_init 62 = .ok (.lconst 0, 1) := by decide +kernel
theorem dX0_init_63 : decode cX0_init 63 = .ok (.putfield 31, 3) := by decide +kernel
theorem dX0_init_66 : decode cX0_init 66 = .ok (.aload_n 0, 1) := by decide +kernel
theorem dX0_init_67 : decode cX0_init 67 = .ok (.iconst 0, 1) := by decide +kernel
theorem dX0_init_68 : decode cX0_init 68 = .ok (.putfield 35, 3) := by decide +kernel
theorem dX0_init_71 : decode cX0_init 71 = .ok (.aload_n 0, 1) := by decide +kernel
theorem dX0_init_72 : decode cX0_init 72 = .ok (.bipush 8, 2) := by decide +kernel
theorem dX0_init_74 : decode cX0_init 74 = .ok (.newarray .int, 2) := by decide +kernel
theorem dX0_init_76 : decode cX0_init 76 = .ok (.putfield 39, 3) := by decide +kernel
theorem dX0_init_79 : decode cX0_init 79 = .ok (.aload_n 0, 1) := by decide +kernel
theorem dX0_init_80 : decode cX0_init 80 = .ok (.getfield 13, 3) := by decide +kernel
theorem dX0_init_83 : decode cX0_init 83 = .ok (.iconst 1, 1) := by decide +kernel
theorem dX0_init_84 : decode cX0_init 84 = .ok (.invokestatic 42, 3) := by decide +kernel
theorem dX0_init_87 : decode cX0_init 87 = .ok (.aload_n 0, 1) := by decide +kernel
theorem dX0_init_88 : decode cX0_init 88 = .ok (.getfield 16, 3) := by decide +kernel
theorem dX0_init_91 : decode cX0_init 91 = .ok (.iconst (-1), 1) := by decide +kernel
theorem dX0_init_92 : decode cX0_init 92 = .ok (.invokestatic 42, 3) := by decide +kernel
theorem dX0_init_95 : decode cX0_init 95 = .ok (.return_, 1) := by decide +kernel
set_option maxRecDepth 20000 in
theorem ggX0_stroke_X0_requireGlyph : GoodIn wsX0_stroke wsX0_requireGlyph := goodIn_ca (goodIn_r _ [5, 6, 7] (by decide +kernel) (by decide +kernel)) (goodIn_sub (fun _ h => List.mem_cons_of_mem _ (List.mem_append_left _ (List.mem_append_right _ h))) (by decide +kernel))
set_option maxRecDepth 20000 in
theorem gX0_stroke_X0_requireGlyph : GoodIn wsX0_stroke (va_wsS RX0 48 yX0_requireGlyph wsX0_requireGlyph) := goodIn_app (goodIn_of _ (by decide +kernel)) ggX0_stroke_X0_requireGlyph
set_option maxRecDepth 20000 in
theorem ggX0_stroke_X0_requireLine : GoodIn wsX0_stroke wsX0_requireLine := goodIn_ca (goodIn_r _ [10, 11, 12, 13, 14, 15, 16, 17, 18, 4, 19] (by decide +kernel) (by decide +kernel)) (goodIn_sub (fun _ h => List.mem_cons_of_mem _ (List.mem_append_right _ h)) (by decide +kernel))
set_option maxRecDepth 20000 in
theorem gX0_stroke_X0_requireLine : GoodIn wsX0_stroke (va_wsS RX0 52 yX0_requireLine wsX0_requireLine) := goodIn_app (goodIn_of _ (by decide +kernel)) ggX0_stroke_X0_requireLine
set_option maxRecDepth 20000 in
theorem ggX0_stroke_X0_lineCells : GoodIn wsX0_stroke wsX0_lineCells := goodIn_r _ [22, 13, 14, 15, 16, 23, 24, 25, 26, 27, 4, 28] (by decide +kernel) (by decide +kernel)
set_option maxRecDepth 20000 in
theorem gX0_stroke_X0_lineCells : GoodIn wsX0_stroke (va_wsS RX0 56 yX0_lineCells wsX0_lineCells) := goodIn_app (goodIn_of _ (by decide +kernel)) ggX0_stroke_X0_lineCells
set_option maxRecDepth 20000 in
theorem ggX0_stroke_X0_forgetWalks : GoodIn wsX0_stroke wsX0_forgetWalks := goodIn_r _ [32, 33, 44, 45, 46, 47, 48, 49, 50, 51, 52, 53] (by decide +kernel) (by decide +kernel)
set_option maxRecDepth 20000 in
theorem gX0_stroke_X0_forgetWalks : GoodIn wsX0_stroke (wsV RX0 60 RX0 yX0_forgetWalks wsX0_forgetWalks) := goodIn_app (goodIn_of _ (by decide +kernel)) ggX0_stroke_X0_forgetWalks
set_option maxRecDepth 20000 in
theorem ggX0_stroke_X0_differing : GoodIn wsX0_stroke wsX0_differing := goodIn_r _ [36, 37, 38, 39, 40, 41, 42, 43] (by decide +kernel) (by decide +kernel)
set_option maxRecDepth 20000 in
theorem gX0_stroke_X0_differing : GoodIn wsX0_stroke (va_wsS RX0 63 yX0_differing wsX0_differing) := goodIn_app (goodIn_of _ (by decide +kernel)) ggX0_stroke_X0_differing
theorem dX0_stroke_0 : decode cX0_stroke 0 = .ok (.iload_n 1, 1) := by decide +kernel
theorem dX0_stroke_1 : decode cX0_stroke 1 = .ok (.invokestatic 48, 3) := by decide +kernel
theorem dX0_stroke_4 : decode cX0_stroke 4 = .ok (.iload_n 2, 1) := by decide +kernel
theorem dX0_stroke_5 : decode cX0_stroke 5 = .ok (.iload_n 3, 1) := by decide +kernel
theorem dX0_stroke_6 : decode cX0_stroke 6 = .ok (.iload 4, 2) := by decide +kernel
theorem dX0_stroke_8 : decode cX0_stroke 8 = .ok (.iload 5, 2) := by decide +kernel
theorem dX0_stroke_10 : decode cX0_stroke 10 = .ok (.invokestatic 52, 3) := by decide +kernel
theorem dX0_stroke_13 : decode cX0_stroke 13 = .ok (.iload_n 2, 1) := by decide +kernel
theorem dX0_stroke_14 : decode cX0_stroke 14 = .ok (.iload_n 3, 1) := by decide +kernel
theorem dX0_stroke_15 : decode cX0_stroke 15 = .ok (.iload 4, 2) := by decide +kernel
theorem dX0_stroke_17 : decode cX0_stroke 17 = .ok (.iload 5, 2) := by decide +kernel
theorem dX0_stroke_19 : decode cX0_stroke 19 = .ok (.invokestatic 56, 3) := by decide +kernel
theorem dX0_stroke_22 : decode cX0_stroke 22 = .ok (.istore 7, 2) := by decide +kernel
theorem dX0_stroke_24 : decode cX0_stroke 24 = .ok (.aload_n 0, 1) := by decide +kernel
theorem dX0_stroke_25 : decode cX0_stroke 25 = .ok (.getfield 9, 3) := by decide +kernel
theorem dX0_stroke_28 : decode cX0_stroke 28 = .ok (.iload_n 1, 1) := by decide +kernel
theorem dX0_stroke_29 : decode cX0_stroke 29 = .ok (.iaload, 1) := by decide +kernel
theorem dX0_stroke_30 : decode cX0_stroke 30 = .ok (.istore 8, 2) := by decide +kernel
theorem dX0_stroke_32 : decode cX0_stroke 32 = .ok (.iload 6, 2) := by decide +kernel
theorem dX0_stroke_34 : decode cX0_stroke 34 = .ok (.ifCond .eq 11, 3) := by decide +kernel
theorem dX0_stroke_37 : decode cX0_stroke 37 = .ok (.iload 8, 2) := by decide +kernel
theorem dX0_stroke_39 : decode cX0_stroke 39 = .ok (.iload 7, 2) := by decide +kernel
theorem dX0_stroke_41 : decode cX0_stroke 41 = .ok (.ior, 1) := by decide +kernel
theorem dX0_stroke_42 : decode cX0_stroke 42 = .ok (.goto 10, 3) := by decide +kernel
theorem dX0_stroke_45 : decode cX0_stroke 45 = .ok (.iload 8, 2) := by decide +kernel
theorem dX0_stroke_47 : decode cX0_stroke 47 = .ok (.iload 7, 2) := by decide +kernel
theorem dX0_stroke_49 : decode cX0_stroke 49 = .ok (.iconst (-1), 1) := by decide +kernel
theorem dX0_stroke_50 : decode cX0_stroke 50 = .ok (.ixor, 1) := by decide +kernel
theorem dX0_stroke_51 : decode cX0_stroke 51 = .ok (.iand, 1) := by decide +kernel
theorem dX0_stroke_52 : decode cX0_stroke 52 = .ok (.istore 9, 2) := by decide +kernel
theorem dX0_stroke_54 : decode cX0_stroke 54 = .ok (.aload_n 0, 1) := by decide +kernel
theorem dX0_stroke_55 : decode cX0_stroke 55 = .ok (.getfield 9, 3) := by decide +kernel
theorem dX0_stroke_58 : decode cX0_stroke 58 = .ok (.iload_n 1, 1) := by decide +kernel
theorem dX0_stroke_59 : decode cX0_stroke 59 = .ok (.iload 9, 2) := by decide +kernel
theorem dX0_stroke_61 : decode cX0_stroke 61 = .ok (.iastore, 1) := by decide +kernel
theorem dX0_stroke_62 : decode cX0_stroke 62 = .ok (.aload_n 0, 1) := by decide +kernel
theorem dX0_stroke_63 : decode cX0_stroke 63 = .ok (.invokevirtual 60, 3) := by decide +kernel
theorem dX0_stroke_66 : decode cX0_stroke 66 = .ok (.iload 8, 2) := by decide +kernel
theorem dX0_stroke_68 : decode cX0_stroke 68 = .ok (.iload 9, 2) := by decide +kernel
theorem dX0_stroke_70 : decode cX0_stroke 70 = .ok (.invokestatic 63, 3) := by decide +kernel
theorem dX0_stroke_73 : decode cX0_stroke 73 = .ok (.ireturn, 1) := by decide +kernel
set_option maxRecDepth 20000 in
theorem ggX0_difference_X0_requireGlyph : GoodIn wsX0_difference wsX0_requireGlyph := goodIn_ca (goodIn_r _ [5, 6, 7] (by decide +kernel) (by decide +kernel)) (goodIn_sub (fun _ h => List.mem_cons_of_mem _ (List.mem_append_right _ h)) (by decide +kernel))
set_option maxRecDepth 20000 in
theorem gX0_difference_X0_requireGlyph : GoodIn wsX0_difference (va_wsS RX0 48 yX0_requireGlyph wsX0_requireGlyph) := goodIn_app (goodIn_of _ (by decide +kernel)) ggX0_difference_X0_requireGlyph
set_option maxRecDepth 20000 in
theorem ggX0_difference_X0_differing : GoodIn wsX0_difference wsX0_differing := goodIn_r _ [10, 11, 12, 13, 14, 15, 16, 17] (by decide +kernel) (by decide +kernel)
set_option maxRecDepth 20000 in
theorem gX0_difference_X0_differing : GoodIn wsX0_difference (va_wsS RX0 63 yX0_differing wsX0_differing) := goodIn_app (goodIn_of _ (by decide +kernel)) ggX0_difference_X0_differing
theorem dX0_difference_0 : decode cX0_difference 0 = .ok (.iload_n 1, 1) := by decide +kernel
theorem dX0_difference_1 : decode cX0_difference 1 = .ok (.invokestatic 48, 3) := by decide +kernel
theorem dX0_difference_4 : decode cX0_difference 4 = .ok (.iload_n 2, 1) := by decide +kernel
theorem dX0_difference_5 : decode cX0_difference 5 = .ok (.invokestatic 48, 3) := by decide +kernel
theorem dX0_difference_8 : decode cX0_difference 8 = .ok (.aload_n 0, 1) := by decide +kernel
theorem dX0_difference_9 : decode cX0_difference 9 = .ok (.getfield 9, 3) := by decide +kernel
theorem dX0_difference_12 : decode cX0_difference 12 = .ok (.iload_n 1, 1) := by decide +kernel
theorem dX0_difference_13 : decode cX0_difference 13 = .ok (.iaload, 1) := by decide +kernel
theorem dX0_difference_14 : decode cX0_difference 14 = .ok (.aload_n 0, 1) := by decide +kernel
theorem dX0_difference_15 : decode cX0_difference 15 = .ok (.getfield 9, 3) := by decide +kernel
theorem dX0_difference_18 : decode cX0_difference 18 = .ok (.iload_n 2, 1) := by decide +kernel
theorem dX0_difference_19 : decode cX0_difference 19 = .ok (.iaload, 1) := by decide +kernel
theorem dX0_difference_20 : decode cX0_difference 20 = .ok (.invokestatic 63, 3) := by decide +kernel
theorem dX0_difference_23 : decode cX0_difference 23 = .ok (.ireturn, 1) := by decide +kernel
set_option maxRecDepth 20000 in
theorem ggX0_width_X0_requireGlyph : GoodIn wsX0_width wsX0_requireGlyph := goodIn_ca (goodIn_r _ [5, 6, 7] (by decide +kernel) (by decide +kernel)) (goodIn_sub (fun _ h => List.mem_cons_of_mem _ (List.mem_append_right _ h)) (by decide +kernel))
set_option maxRecDepth 20000 in
theorem gX0_width_X0_requireGlyph : GoodIn wsX0_width (va_wsS RX0 48 yX0_requireGlyph wsX0_requireGlyph) := goodIn_app (goodIn_of _ (by decide +kernel)) ggX0_width_X0_requireGlyph
set_option maxRecDepth 20000 in
theorem ggX0_width_X0_shapeWidth : GoodIn wsX0_width wsX0_shapeWidth := goodIn_r _ [10, 11, 12, 4, 13, 14, 15, 16, 17, 18, 19, 20, 21, 22, 23, 24, 25, 26] (by decide +kernel) (by decide +kernel)
set_option maxRecDepth 20000 in
theorem gX0_width_X0_shapeWidth : GoodIn wsX0_width (va_wsS RX0 67 yX0_shapeWidth wsX0_shapeWidth) := goodIn_app (goodIn_of _ (by decide +kernel)) ggX0_width_X0_shapeWidth
theorem dX0_width_0 : decode cX0_width 0 = .ok (.iload_n 1, 1) := by decide +kernel
theorem dX0_width_1 : decode cX0_width 1 = .ok (.invokestatic 48, 3) := by decide +kernel
theorem dX0_width_4 : decode cX0_width 4 = .ok (.aload_n 0, 1) := by decide +kernel
theorem dX0_width_5 : decode cX0_width 5 = .ok (.getfield 9, 3) := by decide +kernel
theorem dX0_width_8 : decode cX0_width 8 = .ok (.iload_n 1, 1) := by decide +kernel
theorem dX0_width_9 : decode cX0_width 9 = .ok (.iaload, 1) := by decide +kernel
theorem dX0_width_10 : decode cX0_width 10 = .ok (.invokestatic 67, 3) := by decide +kernel
theorem dX0_width_13 : decode cX0_width 13 = .ok (.ireturn, 1) := by decide +kernel
set_option maxRecDepth 20000 in
theorem ggX0_space_X0_requireGlyph : GoodIn wsX0_space wsX0_requireGlyph := goodIn_ca (goodIn_r _ [7, 8, 9] (by decide +kernel) (by decide +kernel)) (goodIn_sub (fun _ h => List.mem_cons_of_mem _ (List.mem_append_right _ h)) (by decide +kernel))
set_option maxRecDepth 20000 in
theorem gX0_space_X0_requireGlyph : GoodIn wsX0_space (va_wsS RX0 48 yX0_requireGlyph wsX0_requireGlyph) := goodIn_app (goodIn_of _ (by decide +kernel)) ggX0_space_X0_requireGlyph
set_option maxRecDepth 20000 in
theorem ggX0_space_X0_pairOf : GoodIn wsX0_space wsX0_pairOf := goodIn_r _ [12] (by decide +kernel) (by decide +kernel)
set_option maxRecDepth 20000 in
theorem gX0_space_X0_pairOf : GoodIn wsX0_space (va_wsS RX0 78 yX0_pairOf wsX0_pairOf) := goodIn_app (goodIn_of _ (by decide +kernel)) ggX0_space_X0_pairOf
theorem dX0_space_0 : decode cX0_space 0 = .ok (.iload_n 1, 1) := by decide +kernel
theorem dX0_space_1 : decode cX0_space 1 = .ok (.invokestatic 48, 3) := by decide +kernel
theorem dX0_space_4 : decode cX0_space 4 = .ok (.iload_n 2, 1) := by decide +kernel
theorem dX0_space_5 : decode cX0_space 5 = .ok (.invokestatic 48, 3) := by decide +kernel
theorem dX0_space_8 : decode cX0_space 8 = .ok (.iload_n 3, 1) := by decide +kernel
theorem dX0_space_9 : decode cX0_space 9 = .ok (.iconst (-1), 1) := by decide +kernel
theorem dX0_space_10 : decode cX0_space 10 = .ok (.if_icmp .lt 8, 3) := by decide +kernel
theorem dX0_space_13 : decode cX0_space 13 = .ok (.iload_n 3, 1) := by decide +kernel
theorem dX0_space_14 : decode cX0_space 14 = .ok (.iconst 3, 1) := by decide +kernel
theorem dX0_space_15 : decode cX0_space 15 = .ok (.if_icmp .le 13, 3) := by decide +kernel
theorem dX0_space_18 : decode cX0_space 18 = .ok (.new 71, 3) := by decide +kernel
theorem dX0_space_21 : decode cX0_space 21 = .ok (.dup, 1) := by decide +kernel
theorem dX0_space_22 : decode cX0_space 22 = .ok (.ldc 73, 2) := by decide +kernel
theorem dX0_space_24 : decode cX0_space 24 = .ok (.invokespecial 75, 3) := by decide +kernel
theorem dX0_space_27 : decode cX0_space 27 = .ok (.athrow, 1) := by decide +kernel
theorem dX0_space_28 : decode cX0_space 28 = .ok (.iload_n 1, 1) := by decide +kernel
theorem dX0_space_29 : decode cX0_space 29 = .ok (.iload_n 2, 1) := by decide +kernel
theorem dX0_space_30 : decode cX0_space 30 = .ok (.invokestatic 78, 3) := by decide +kernel
theorem dX0_space_33 : decode cX0_space 33 = .ok (.istore 4, 2) := by decide +kernel
theorem dX0_space_35 : decode cX0_space 35 = .ok (.aload_n 0, 1) := by decide +kernel
theorem dX0_space_36 : decode cX0_space 36 = .ok (.getfield 13, 3) := by decide +kernel
theorem dX0_space_39 : decode cX0_space 39 = .ok (.iload 4, 2) := by decide +kernel
theorem dX0_space_41 : decode cX0_space 41 = .ok (.iaload, 1) := by decide +kernel
theorem dX0_space_42 : decode cX0_space 42 = .ok (.istore 5, 2) := by decide +kernel
theorem dX0_space_44 : decode cX0_space 44 = .ok (.aload_n 0, 1) := by decide +kernel
theorem dX0_space_45 : decode cX0_space 45 = .ok (.getfield 13, 3) := by decide +kernel
theorem dX0_space_48 : decode cX0_space 48 = .ok (.iload 4, 2) := by decide +kernel
theorem dX0_space_50 : decode cX0_space 50 = .ok (.iload_n 3, 1) := by decide +kernel
theorem dX0_space_51 : decode cX0_space 51 = .ok (.iastore, 1) := by decide +kernel
theorem dX0_space_52 : decode cX0_space 52 = .ok (.iload 5, 2) := by decide +kernel
theorem dX0_space_54 : decode cX0_space 54 = .ok (.ireturn, 1) := by decide +kernel
set_option maxRecDepth 20000 in
theorem ggX0_lead_X0_requireExit : GoodIn wsX0_lead wsX0_requireExit := goodIn_ca (goodIn_r _ [5, 6, 7, 8, 9, 4, 10] (by decide +kernel) (by decide +kernel)) (goodIn_sub (fun _ h => List.mem_cons_of_mem _ (List.mem_append_right _ h)) (by decide +kernel))
set_option maxRecDepth 20000 in
theorem gX0_lead_X0_requireExit : GoodIn wsX0_lead (va_wsS RX0 81 yX0_requireExit wsX0_requireExit) := goodIn_app (goodIn_of _ (by decide +kernel)) ggX0_lead_X0_requireExit
set_option maxRecDepth 20000 in
theorem ggX0_lead_X0_requirePlace : GoodIn wsX0_lead wsX0_requirePlace := goodIn_ca (goodIn_r _ [10, 6, 7] (by decide +kernel) (by decide +kernel)) (goodIn_sub (fun _ h => List.mem_cons_of_mem _ (List.mem_append_right _ h)) (by decide +kernel))
set_option maxRecDepth 20000 in
theorem gX0_lead_X0_requirePlace : GoodIn wsX0_lead (va_wsS RX0 85 yX0_requirePlace wsX0_requirePlace) := goodIn_app (goodIn_of _ (by decide +kernel)) ggX0_lead_X0_requirePlace
set_option maxRecDepth 20000 in
theorem ggX0_lead_X0_wayOf : GoodIn wsX0_lead wsX0_wayOf := goodIn_r _ [13] (by decide +kernel) (by decide +kernel)
set_option maxRecDepth 20000 in
theorem gX0_lead_X0_wayOf : GoodIn wsX0_lead (va_wsS RX0 88 yX0_wayOf wsX0_wayOf) := goodIn_app (goodIn_of _ (by decide +kernel)) ggX0_lead_X0_wayOf
set_option maxRecDepth 20000 in
theorem ggX0_lead_X0_forgetWalks : GoodIn wsX0_lead wsX0_forgetWalks := goodIn_r _ [17, 18, 19, 20, 21, 22, 23, 24, 25, 26, 27, 28] (by decide +kernel) (by decide +kernel)
set_option maxRecDepth 20000 in
theorem gX0_lead_X0_forgetWalks : GoodIn wsX0_lead (wsV RX0 60 RX0 yX0_forgetWalks wsX0_forgetWalks) := goodIn_app (goodIn_of _ (by decide +kernel)) ggX0_lead_X0_forgetWalks
theorem dX0_lead_0 : decode cX0_lead 0 = .ok (.iload_n 1, 1) := by decide +kernel
theorem dX0_lead_1 : decode cX0_lead 1 = .ok (.iload_n 2, 1) := by decide +kernel
theorem dX0_lead_2 : decode cX0_lead 2 = .ok (.invokestatic 81, 3) := by decide +kernel
theorem dX0_lead_5 : decode cX0_lead 5 = .ok (.iload_n 3, 1) := by decide +kernel
theorem dX0_lead_6 : decode cX0_lead 6 = .ok (.iconst (-1), 1) := by decide +kernel
theorem dX0_lead_7 : decode cX0_lead 7 = .ok (.if_icmp .eq 7, 3) := by decide +kernel
theorem dX0_lead_10 : decode cX0_lead 10 = .ok (.iload_n 3, 1) := by decide +kernel
theorem dX0_lead_11 : decode cX0_lead 11 = .ok (.invokestatic 85, 3) := by decide +kernel
theorem dX0_lead_14 : decode cX0_lead 14 = .ok (.iload_n 1, 1) := by decide +kernel
theorem dX0_lead_15 : decode cX0_lead 15 = .ok (.iload_n 2, 1) := by decide +kernel
theorem dX0_lead_16 : decode cX0_lead 16 = .ok (.invokestatic 88, 3) := by decide +kernel
theorem dX0_lead_19 : decode cX0_lead 19 = .ok (.istore 4, 2) := by decide +kernel
theorem dX0_lead_21 : decode cX0_lead 21 = .ok (.aload_n 0, 1) := by decide +kernel
theorem dX0_lead_22 : decode cX0_lead 22 = .ok (.getfield 16, 3) := by decide +kernel
theorem dX0_lead_25 : decode cX0_lead 25 = .ok (.iload 4, 2) := by decide +kernel
theorem dX0_lead_27 : decode cX0_lead 27 = .ok (.iaload, 1) := by decide +kernel
theorem dX0_lead_28 : decode cX0_lead 28 = .ok (.istore 5, 2) := by decide +kernel
theorem dX0_lead_30 : decode cX0_lead 30 = .ok (.aload_n 0, 1) := by decide +kernel
theorem dX0_lead_31 : decode cX0_lead 31 = .ok (.getfield 16, 3) := by decide +kernel
theorem dX0_lead_34 : decode cX0_lead 34 = .ok (.iload 4, 2) := by decide +kernel
theorem dX0_lead_36 : decode cX0_lead 36 = .ok (.iload_n 3, 1) := by decide +kernel
theorem dX0_lead_37 : decode cX0_lead 37 = .ok (.iastore, 1) := by decide +kernel
theorem dX0_lead_38 : decode cX0_lead 38 = .ok (.aload_n 0, 1) := by decide +kernel
theorem dX0_lead_39 : decode cX0_lead 39 = .ok (.invokevirtual 60, 3) := by decide +kernel
theorem dX0_lead_42 : decode cX0_lead 42 = .ok (.iload 5, 2) := by decide +kernel
theorem dX0_lead_44 : decode cX0_lead 44 = .ok (.ireturn, 1) := by decide +kernel
set_option maxRecDepth 20000 in
theorem ggX0_name_X0_requirePlace : GoodIn wsX0_name wsX0_requirePlace := goodIn_ca (goodIn_r _ [5, 6, 7] (by decide +kernel) (by decide +kernel)) (goodIn_sub (fun _ h => List.mem_cons_of_mem _ (List.mem_append_left _ (List.mem_append_right _ h))) (by decide +kernel))
set_option maxRecDepth 20000 in
theorem gX0_name_X0_requirePlace : GoodIn wsX0_name (va_wsS RX0 85 yX0_requirePlace wsX0_requirePlace) := goodIn_app (goodIn_of _ (by decide +kernel)) ggX0_name_X0_requirePlace
set_option maxRecDepth 20000 in
theorem ggX0_name_X0_requireText : GoodIn wsX0_name wsX0_requireText := goodIn_ca (goodIn_r _ [10, 11, 12] (by decide +kernel) (by decide +kernel)) (goodIn_sub (fun _ h => List.mem_cons_of_mem _ (List.mem_append_right _ h)) (by decide +kernel))
set_option maxRecDepth 20000 in
theorem gX0_name_X0_requireText : GoodIn wsX0_name (va_wsS RX0 91 yX0_requireText wsX0_requireText) := goodIn_app (goodIn_of _ (by decide +kernel)) ggX0_name_X0_requireText
set_option maxRecDepth 20000 in
theorem ggX0_name_X0_pack : GoodIn wsX0_name wsX0_pack := goodIn_r _ [15] (by decide +kernel) (by decide +kernel)
set_option maxRecDepth 20000 in
theorem gX0_name_X0_pack : GoodIn wsX0_name (va_wsS RX0 94 yX0_pack wsX0_pack) := goodIn_app (goodIn_of _ (by decide +kernel)) ggX0_name_X0_pack
set_option maxRecDepth 20000 in
theorem ggX0_name_X0_forgetWalks : GoodIn wsX0_name wsX0_forgetWalks := goodIn_r _ [19, 20, 21, 22, 23, 24, 25, 26, 27, 28, 29, 30] (by decide +kernel) (by decide +kernel)
set_option maxRecDepth 20000 in
theorem gX0_name_X0_forgetWalks : GoodIn wsX0_name (wsV RX0 60 RX0 yX0_forgetWalks wsX0_forgetWalks) := goodIn_app (goodIn_of _ (by decide +kernel)) ggX0_name_X0_forgetWalks
theorem dX0_name_0 : decode cX0_name 0 = .ok (.iload_n 1, 1) := by decide +kernel
theorem dX0_name_1 : decode cX0_name 1 = .ok (.invokestatic 85, 3) := by decide +kernel
theorem dX0_name_4 : decode cX0_name 4 = .ok (.iload_n 2, 1) := by decide +kernel
theorem dX0_name_5 : decode cX0_name 5 = .ok (.iload_n 3, 1) := by decide +kernel
theorem dX0_name_6 : decode cX0_name 6 = .ok (.invokestatic 91, 3) := by decide +kernel
theorem dX0_name_9 : decode cX0_name 9 = .ok (.aload_n 0, 1) := by decide +kernel
theorem dX0_name_10 : decode cX0_name 10 = .ok (.getfield 19, 3) := by decide +kernel
theorem dX0_name_13 : decode cX0_name 13 = .ok (.iload_n 1, 1) := by decide +kernel
theorem dX0_name_14 : decode cX0_name 14 = .ok (.iload_n 2, 1) := by decide +kernel
theorem dX0_name_15 : decode cX0_name 15 = .ok (.iload_n 3, 1) := by decide +kernel
theorem dX0_name_16 : decode cX0_name 16 = .ok (.invokestatic 94, 3) := by decide +kernel
theorem dX0_name_19 : decode cX0_name 19 = .ok (.iastore, 1) := by decide +kernel
theorem dX0_name_20 : decode cX0_name 20 = .ok (.aload_n 0, 1) := by decide +kernel
theorem dX0_name_21 : decode cX0_name 21 = .ok (.invokevirtual 60, 3) := by decide +kernel
theorem dX0_name_24 : decode cX0_name 24 = .ok (.return_, 1) := by decide +kernel
set_option maxRecDepth 20000 in
theorem ggX0_textWidth_X0_requireText : GoodIn wsX0_textWidth wsX0_requireText := goodIn_ca (goodIn_r _ [4, 5, 6] (by decide +kernel) (by decide +kernel)) (goodIn_sub (fun _ h => List.mem_cons_of_mem _ (List.mem_append_right _ h)) (by decide +kernel))
set_option maxRecDepth 20000 in
theorem gX0_textWidth_X0_requireText : GoodIn wsX0_textWidth (va_wsS RX0 91 yX0_requireText wsX0_requireText) := goodIn_app (goodIn_of _ (by decide +kernel)) ggX0_textWidth_X0_requireText
set_option maxRecDepth 20000 in
theorem ggX0_textWidth_X0_pack : GoodIn wsX0_textWidth wsX0_pack := goodIn_r _ [9] (by decide +kernel) (by decide +kernel)
set_option maxRecDepth 20000 in
theorem gX0_textWidth_X0_pack : GoodIn wsX0_textWidth (va_wsS RX0 94 yX0_pack wsX0_pack) := goodIn_app (goodIn_of _ (by decide +kernel)) ggX0_textWidth_X0_pack
set_option maxRecDepth 20000 in
theorem ggX0_textWidth_X0_packedWidth : GoodIn wsX0_textWidth wsX0_packedWidth := goodIn_r _ [13, 14, 15, 16, 17, 3, 18, 19, 20, 21, 22, 23, 24, 25, 26, 27, 28, 29, 30, 31, 32, 33, 34, 35, 36, 37, 38, 39, 40, 41, 42, 43, 44, 45, 46, 47, 48, 49, 50, 51, 52, 53] (by decide +kernel) (by decide +kernel)
set_option maxRecDepth 20000 in
theorem gX0_textWidth_X0_packedWidth : GoodIn wsX0_textWidth (wsV RX0 97 RX0 yX0_packedWidth wsX0_packedWidth) := goodIn_app (goodIn_of _ (by decide +kernel)) ggX0_textWidth_X0_packedWidth
theorem dX0_textWidth_0 : decode cX0_textWidth 0 = .ok (.iload_n 1, 1) := by decide +kernel
theorem dX0_textWidth_1 : decode cX0_textWidth 1 = .ok (.iload_n 2, 1) := by decide +kernel
theorem dX0_textWidth_2 : decode cX0_textWidth 2 = .ok (.invokestatic 91, 3) := by decide +kernel
theorem dX0_textWidth_5 : decode cX0_textWidth 5 = .ok (.aload_n 0, 1) := by decide +kernel
theorem dX0_textWidth_6 : decode cX0_textWidth 6 = .ok (.iload_n 1, 1) := by decide +kernel
theorem dX0_textWidth_7 : decode cX0_textWidth 7 = .ok (.iload_n 2, 1) := by decide +kernel
theorem dX0_textWidth_8 : decode cX0_textWidth 8 = .ok (.invokestatic 94, 3) := by decide +kernel
theorem dX0_textWidth_11 : decode cX0_textWidth 11 = .ok (.invokevirtual 97, 3) := by decide +kernel
theorem dX0_textWidth_14 : decode cX0_textWidth 14 = .ok (.ireturn, 1) := by decide +kernel
set_option maxRecDepth 20000 in
theorem ggX0_cut_X0_requireExit : GoodIn wsX0_cut wsX0_requireExit := goodIn_ca (goodIn_r _ [10, 11, 12, 13, 14, 9, 15] (by decide +kernel) (by decide +kernel)) (goodIn_sub (fun _ h => List.mem_cons_of_mem _ (List.mem_append_right _ h)) (by decide +kernel))
set_option maxRecDepth 20000 in
theorem gX0_cut_X0_requireExit : GoodIn wsX0_cut (va_wsS RX0 81 yX0_requireExit wsX0_requireExit) := goodIn_app (goodIn_of _ (by decide +kernel)) ggX0_cut_X0_requireExit
set_option maxRecDepth 20000 in
theorem ggX0_cut_X0_requireText : GoodIn wsX0_cut wsX0_requireText := goodIn_ca (goodIn_r _ [18, 1, 2] (by decide +kernel) (by decide +kernel)) (goodIn_sub (fun _ h => List.mem_cons_of_mem _ (List.mem_append_left _ (List.mem_append_left _ (List.mem_append_right _ h)))) (by decide +kernel))
set_option maxRecDepth 20000 in
theorem gX0_cut_X0_requireText : GoodIn wsX0_cut (va_wsS RX0 91 yX0_requireText wsX0_requireText) := goodIn_app (goodIn_of _ (by decide +kernel)) ggX0_cut_X0_requireText
set_option maxRecDepth 20000 in
theorem ggX0_cut_X0_pack : GoodIn wsX0_cut wsX0_pack := goodIn_r _ [21] (by decide +kernel) (by decide +kernel)
set_option maxRecDepth 20000 in
theorem gX0_cut_X0_pack : GoodIn wsX0_cut (va_wsS RX0 94 yX0_pack wsX0_pack) := goodIn_app (goodIn_of _ (by decide +kernel)) ggX0_cut_X0_pack
set_option maxRecDepth 20000 in
theorem ggX0_cut_X0_plateFor : GoodIn wsX0_cut wsX0_plateFor := goodIn_r _ [25, 26, 27, 28, 9, 29, 30, 31, 32, 33, 34, 35, 36, 37, 38, 39, 40, 41, 42, 43, 44, 45, 46, 47, 48, 49, 50, 51, 52, 53, 54, 55, 56, 57, 58, 59, 74, 75, 76, 77, 78, 79, 80, 81, 82, 83] (by decide +kernel) (by decide +kernel)
set_option maxRecDepth 20000 in
theorem gX0_cut_X0_plateFor : GoodIn wsX0_cut (wsV RX0 102 RX0 yX0_plateFor wsX0_plateFor) := goodIn_app (goodIn_of _ (by decide +kernel)) ggX0_cut_X0_plateFor
set_option maxRecDepth 20000 in
theorem ggX0_cut_X0_wayOf : GoodIn wsX0_cut wsX0_wayOf := goodIn_r _ [62] (by decide +kernel) (by decide +kernel)
set_option maxRecDepth 20000 in
theorem gX0_cut_X0_wayOf : GoodIn wsX0_cut (va_wsS RX0 88 yX0_wayOf wsX0_wayOf) := goodIn_app (goodIn_of _ (by decide +kernel)) ggX0_cut_X0_wayOf
set_option maxRecDepth 20000 in
theorem ggX0_cut_X0_engrave : GoodIn wsX0_cut wsX0_engrave := goodIn_r _ [66, 5, 67, 30, 68, 32, 33, 9, 34, 35, 36, 37, 74, 75, 76, 77, 78, 79, 80, 81, 82, 83] (by decide +kernel) (by decide +kernel)
set_option maxRecDepth 20000 in
theorem gX0_cut_X0_engrave : GoodIn wsX0_cut (wsV RX0 110 RX0 yX0_engrave wsX0_engrave) := goodIn_app (goodIn_of _ (by decide +kernel)) ggX0_cut_X0_engrave
set_option maxRecDepth 20000 in
theorem ggX0_cut_X0_forgetWalks : GoodIn wsX0_cut wsX0_forgetWalks := goodIn_r _ [72, 73, 74, 75, 76, 77, 78, 79, 80, 81, 82, 83] (by decide +kernel) (by decide +kernel)
set_option maxRecDepth 20000 in
theorem gX0_cut_X0_forgetWalks : GoodIn wsX0_cut (wsV RX0 60 RX0 yX0_forgetWalks wsX0_forgetWalks) := goodIn_app (goodIn_of _ (by decide +kernel)) ggX0_cut_X0_forgetWalks
theorem dX0_cut_0 : decode cX0_cut 0 = .ok (.iload_n 1, 1) := by decide +kernel
theorem dX0_cut_1 : decode cX0_cut 1 = .ok (.iload_n 2, 1) := by decide +kernel
theorem dX0_cut_2 : decode cX0_cut 2 = .ok (.invokestatic 81, 3) := by decide +kernel
theorem dX0_cut_5 : decode cX0_cut 5 = .ok (.iload_n 3, 1) := by decide +kernel
theorem dX0_cut_6 : decode cX0_cut 6 = .ok (.iload 4, 2) := by decide +kernel
theorem dX0_cut_8 : decode cX0_cut 8 = .ok (.invokestatic 91, 3) := by decide +kernel
theorem dX0_cut_11 : decode cX0_cut 11 = .ok (.iload 5, 2) := by decide +kernel
theorem dX0_cut_13 : decode cX0_cut 13 = .ok (.ifCond .lt 10, 3) := by decide +kernel
theorem dX0_cut_16 : decode cX0_cut 16 = .ok (.iload 5, 2) := by decide +kernel
theorem dX0_cut_18 : decode cX0_cut 18 = .ok (.bipush 9, 2) := by decide +kernel
theorem dX0_cut_20 : decode cX0_cut 20 = .ok (.if_icmp .le 13, 3) := by decide +kernel
theorem dX0_cut_23 : decode cX0_cut 23 = .ok (.new 71, 3) := by decide +kernel
theorem dX0_cut_26 : decode cX0_cut 26 = .ok (.dup, 1) := by decide +kernel
theorem dX0_cut_27 : decode cX0_cut 27 = .ok (.ldc 100, 2) := by decide +kernel
theorem dX0_cut_29 : decode cX0_cut 29 = .ok (.invokespecial 75, 3) := by decide +kernel
theorem dX0_cut_32 : decode cX0_cut 32 = .ok (.athrow, 1) := by decide +kernel
theorem dX0_cut_33 : decode cX0_cut 33 = .ok (.iload_n 3, 1) := by decide +kernel
theorem dX0_cut_34 : decode cX0_cut 34 = .ok (.iload 4, 2) := by decide +kernel
theorem dX0_cut_36 : decode cX0_cut 36 = .ok (.invokestatic 94, 3) := by decide +kernel
theorem dX0_cut_39 : decode cX0_cut 39 = .ok (.istore 6, 2) := by decide +kernel
theorem dX0_cut_41 : decode cX0_cut 41 = .ok (.aload_n 0, 1) := by decide +kernel
theorem dX0_cut_42 : decode cX0_cut 42 = .ok (.iload 6, 2) := by decide +kernel
theorem dX0_cut_44 : decode cX0_cut 44 = .ok (.invokevirtual 102, 3) := by decide +kernel
theorem dX0_cut_47 : decode cX0_cut 47 = .ok (.istore 7, 2) := by decide +kernel
theorem dX0_cut_49 : decode cX0_cut 49 = .ok (.iload 7, 2) := by decide +kernel
theorem dX0_cut_51 : decode cX0_cut 51 = .ok (.iconst (-1), 1) := by decide +kernel
theorem dX0_cut_52 : decode cX0_cut 52 = .ok (.if_icmp .ne 13, 3) := by decide +kernel
theorem dX0_cut_55 : decode cX0_cut 55 = .ok (.new 105, 3) := by decide +kernel
theorem dX0_cut_58 : decode cX0_cut 58 = .ok (.dup, 1) := by decide +kernel
theorem dX0_cut_59 : decode cX0_cut 59 = .ok (.ldc 107, 2) := by decide +kernel
theorem dX0_cut_61 : decode cX0_cut 61 = .ok (.invokespecial 109, 3) := by decide +kernel
theorem dX0_cut_64 : decode cX0_cut 64 = .ok (.athrow, 1) := by decide +kernel
theorem dX0_cut_65 : decode cX0_cut 65 = .ok (.iload_n 1, 1) := by decide +kernel
theorem dX0_cut_66 : decode cX0_cut 66 = .ok (.iload_n 2, 1) := by decide +kernel
theorem dX0_cut_67 : decode cX0_cut 67 = .ok (.invokestatic 88, 3) := by decide +kernel
theorem dX0_cut_70 : decode cX0_cut 70 = .ok (.istore 8, 2) := by decide +kernel
theorem dX0_cut_72 : decode cX0_cut 72 = .ok (.aload_n 0, 1) := by decide +kernel
theorem dX0_cut_73 : decode cX0_cut 73 = .ok (.getfield 22, 3) := by decide +kernel
theorem dX0_cut_76 : decode cX0_cut 76 = .ok (.iload 8, 2) := by decide +kernel
theorem dX0_cut_78 : decode cX0_cut 78 = .ok (.iload 6, 2) := by decide +kernel
theorem dX0_cut_80 : decode cX0_cut 80 = .ok (.iastore, 1) := by decide +kernel
theorem dX0_cut_81 : decode cX0_cut 81 = .ok (.aload_n 0, 1) := by decide +kernel
theorem dX0_cut_82 : decode cX0_cut 82 = .ok (.getfield 25, 3) := by decide +kernel
theorem dX0_cut_85 : decode cX0_cut 85 = .ok (.iload 8, 2) := by decide +kernel
theorem dX0_cut_87 : decode cX0_cut 87 = .ok (.iload 5, 2) := by decide +kernel
theorem dX0_cut_89 : decode cX0_cut 89 = .ok (.iastore, 1) := by decide +kernel
theorem dX0_cut_90 : decode cX0_cut 90 = .ok (.aload_n 0, 1) := by decide +kernel
theorem dX0_cut_91 : decode cX0_cut 91 = .ok (.iload 8, 2) := by decide +kernel
theorem dX0_cut_93 : decode cX0_cut 93 = .ok (.iload 7, 2) := by decide +kernel
theorem dX0_cut_95 : decode cX0_cut 95 = .ok (.invokevirtual 110, 3) := by decide +kernel
theorem dX0_cut_98 : decode cX0_cut 98 = .ok (.aload_n 0, 1) := by decide +kernel
theorem dX0_cut_99 : decode cX0_cut 99 = .ok (.invokevirtual 60, 3) := by decide +kernel
theorem dX0_cut_102 : decode cX0_cut 102 = .ok (.iload 7, 2) := by decide +kernel
theorem dX0_cut_104 : decode cX0_cut 104 = .ok (.ireturn, 1) := by decide +kernel
set_option maxRecDepth 20000 in
theorem ggX0_remove_X0_requireExit : GoodIn wsX0_remove wsX0_requireExit := goodIn_ca (goodIn_r _ [5, 6, 7, 8, 9, 4, 10] (by decide +kernel) (by decide +kernel)) (goodIn_sub (fun _ h => List.mem_cons_of_mem _ (List.mem_append_right _ h)) (by decide +kernel))
set_option maxRecDepth 20000 in
theorem gX0_remove_X0_requireExit : GoodIn wsX0_remove (va_wsS RX0 81 yX0_requireExit wsX0_requireExit) := goodIn_app (goodIn_of _ (by decide +kernel)) ggX0_remove_X0_requireExit
set_option maxRecDepth 20000 in
theorem ggX0_remove_X0_wayOf : GoodIn wsX0_remove wsX0_wayOf := goodIn_r _ [13] (by decide +kernel) (by decide +kernel)
set_option maxRecDepth 20000 in
theorem gX0_remove_X0_wayOf : GoodIn wsX0_remove (va_wsS RX0 88 yX0_wayOf wsX0_wayOf) := goodIn_app (goodIn_of _ (by decide +kernel)) ggX0_remove_X0_wayOf
set_option maxRecDepth 20000 in
theorem ggX0_remove_X0_forgetWalks : GoodIn wsX0_remove wsX0_forgetWalks := goodIn_r _ [17, 18, 19, 20, 21, 22, 23, 24, 25, 26, 27, 28] (by decide +kernel) (by decide +kernel)
set_option maxRecDepth 20000 in
theorem gX0_remove_X0_forgetWalks : GoodIn wsX0_remove (wsV RX0 60 RX0 yX0_forgetWalks wsX0_forgetWalks) := goodIn_app (goodIn_of _ (by decide +kernel)) ggX0_remove_X0_forgetWalks
theorem dX0_remove_0 : decode cX0_remove 0 = .ok (.iload_n 1, 1) := by decide +kernel
theorem dX0_remove_1 : decode cX0_remove 1 = .ok (.iload_n 2, 1) := by decide +kernel
theorem dX0_remove_2 : decode cX0_remove 2 = .ok (.invokestatic 81, 3) := by decide +kernel
theorem dX0_remove_5 : decode cX0_remove 5 = .ok (.iload_n 1, 1) := by decide +kernel
theorem dX0_remove_6 : decode cX0_remove 6 = .ok (.iload_n 2, 1) := by decide +kernel
theorem dX0_remove_7 : decode cX0_remove 7 = .ok (.invokestatic 88, 3) := by decide +kernel
theorem dX0_remove_10 : decode cX0_remove 10 = .ok (.istore_n 3, 1) := by decide +kernel
theorem dX0_remove_11 : decode cX0_remove 11 = .ok (.aload_n 0, 1) := by decide +kernel
theorem dX0_remove_12 : decode cX0_remove 12 = .ok (.getfield 22, 3) := by decide +kernel
theorem dX0_remove_15 : decode cX0_remove 15 = .ok (.iload_n 3, 1) := by decide +kernel
theorem dX0_remove_16 : decode cX0_remove 16 = .ok (.iaload, 1) := by decide +kernel
theorem dX0_remove_17 : decode cX0_remove 17 = .ok (.ifCond .eq 7, 3) := by decide +kernel
theorem dX0_remove_20 : decode cX0_remove 20 = .ok (.iconst 1, 1) := by decide +kernel
theorem dX0_remove_21 : decode cX0_remove 21 = .ok (.goto 4, 3) := by decide +kernel
theorem dX0_remove_24 : decode cX0_remove 24 = .ok (.iconst 0, 1) := by decide +kernel
theorem dX0_remove_25 : decode cX0_remove 25 = .ok (.istore 4, 2) := by decide +kernel
theorem dX0_remove_27 : decode cX0_remove 27 = .ok (.aload_n 0, 1) := by decide +kernel
theorem dX0_remove_28 : decode cX0_remove 28 = .ok (.getfield 22, 3) := by decide +kernel
theorem dX0_remove_31 : decode cX0_remove 31 = .ok (.iload_n 3, 1) := by decide +kernel
theorem dX0_remove_32 : decode cX0_remove 32 = .ok (.iconst 0, 1) := by decide +kernel
theorem dX0_remove_33 : decode cX0_remove 33 = .ok (.iastore, 1) := by decide +kernel
theorem dX0_remove_34 : decode cX0_remove 34 = .ok (.aload_n 0, 1) := by decide +kernel
theorem dX0_remove_35 : decode cX0_remove 35 = .ok (.invokevirtual 60, 3) := by decide +kernel
theorem dX0_remove_38 : decode cX0_remove 38 = .ok (.iload 4, 2) := by decide +kernel
theorem dX0_remove_40 : decode cX0_remove 40 = .ok (.ireturn, 1) := by decide +kernel
set_option maxRecDepth 20000 in
theorem ggX0_isOld_X0_requireExit : GoodIn wsX0_isOld wsX0_requireExit := goodIn_ca (goodIn_r _ [4, 5, 6, 7, 8, 3, 9] (by decide +kernel) (by decide +kernel)) (goodIn_sub (fun _ h => List.mem_cons_of_mem _ (List.mem_append_right _ h)) (by decide +kernel))
set_option maxRecDepth 20000 in
theorem gX0_isOld_X0_requireExit : GoodIn wsX0_isOld (va_wsS RX0 81 yX0_requireExit wsX0_requireExit) := goodIn_app (goodIn_of _ (by decide +kernel)) ggX0_isOld_X0_requireExit
set_option maxRecDepth 20000 in
theorem ggX0_isOld_X0_wayOf : GoodIn wsX0_isOld wsX0_wayOf := goodIn_r _ [12] (by decide +kernel) (by decide +kernel)
set_option maxRecDepth 20000 in
theorem gX0_isOld_X0_wayOf : GoodIn wsX0_isOld (va_wsS RX0 88 yX0_wayOf wsX0_wayOf) := goodIn_app (goodIn_of _ (by decide +kernel)) ggX0_isOld_X0_wayOf
set_option maxRecDepth 20000 in
theorem ggX0_isOld_X0_isOutdated : GoodIn wsX0_isOld wsX0_isOutdated := goodIn_r _ [16, 17, 18, 19, 20, 21, 3, 22, 23, 24, 25, 26, 27, 28, 29, 30, 31, 32, 33, 34, 35] (by decide +kernel) (by decide +kernel)
set_option maxRecDepth 20000 in
theorem gX0_isOld_X0_isOutdated : GoodIn wsX0_isOld (wsV RX0 113 RX0 yX0_isOutdated wsX0_isOutdated) := goodIn_app (goodIn_of _ (by decide +kernel)) ggX0_isOld_X0_isOutdated
theorem dX0_isOld_0 : decode cX0_isOld 0 = .ok (.iload_n 1, 1) := by decide +kernel
theorem dX0_isOld_1 : decode cX0_isOld 1 = .ok (.iload_n 2, 1) := by decide +kernel
theorem dX0_isOld_2 : decode cX0_isOld 2 = .ok (.invokestatic 81, 3) := by decide +kernel
theorem dX0_isOld_5 : decode cX0_isOld 5 = .ok (.aload_n 0, 1) := by decide +kernel
theorem dX0_isOld_6 : decode cX0_isOld 6 = .ok (.iload_n 1, 1) := by decide +kernel
theorem dX0_isOld_7 : decode cX0_isOld 7 = .ok (.iload_n 2, 1) := by decide +kernel
theorem dX0_isOld_8 : decode cX0_isOld 8 = .ok (.invokestatic 88, 3) := by decide +kernel
theorem dX0_isOld_11 : decode cX0_isOld 11 = .ok (.invokevirtual 113, 3) := by decide +kernel
theorem dX0_isOld_14 : decode cX0_isOld 14 = .ok (.ireturn, 1) := by decide +kernel
set_option maxRecDepth 20000 in
theorem ggX0_read_X0_requireExit : GoodIn wsX0_read wsX0_requireExit := goodIn_ca (goodIn_r _ [5, 6, 7, 8, 9, 4, 10] (by decide +kernel) (by decide +kernel)) (goodIn_sub (fun _ h => List.mem_cons_of_mem _ (List.mem_append_right _ h)) (by decide +kernel))
set_option maxRecDepth 20000 in
theorem gX0_read_X0_requireExit : GoodIn wsX0_read (va_wsS RX0 81 yX0_requireExit wsX0_requireExit) := goodIn_app (goodIn_of _ (by decide +kernel)) ggX0_read_X0_requireExit
set_option maxRecDepth 20000 in
theorem ggX0_read_X0_wayOf : GoodIn wsX0_read wsX0_wayOf := goodIn_r _ [13] (by decide +kernel) (by decide +kernel)
set_option maxRecDepth 20000 in
theorem gX0_read_X0_wayOf : GoodIn wsX0_read (va_wsS RX0 88 yX0_wayOf wsX0_wayOf) := goodIn_app (goodIn_of _ (by decide +kernel)) ggX0_read_X0_wayOf
set_option maxRecDepth 20000 in
theorem ggX0_read_X0_readText : GoodIn wsX0_read wsX0_readText := goodIn_r _ [17, 1, 18, 19, 20, 21, 4, 22, 23, 24, 25, 26, 27, 28, 29, 30, 31, 32, 33, 34, 35, 36, 37, 38, 39, 40, 41, 42, 43, 44, 48, 49, 50, 51, 52, 53, 54, 55, 56, 57] (by decide +kernel) (by decide +kernel)
set_option maxRecDepth 20000 in
theorem gX0_read_X0_readText : GoodIn wsX0_read (wsV RX0 120 RX0 yX0_readText wsX0_readText) := goodIn_app (goodIn_of _ (by decide +kernel)) ggX0_read_X0_readText
set_option maxRecDepth 20000 in
theorem ggX0_read_X0_numberOf : GoodIn wsX0_read wsX0_numberOf := goodIn_r _ [47] (by decide +kernel) (by decide +kernel)
set_option maxRecDepth 20000 in
theorem gX0_read_X0_numberOf : GoodIn wsX0_read (va_wsS RX0 123 yX0_numberOf wsX0_numberOf) := goodIn_app (goodIn_of _ (by decide +kernel)) ggX0_read_X0_numberOf
theorem dX0_read_0 : decode cX0_read 0 = .ok (.iload_n 1, 1) := by decide +kernel
theorem dX0_read_1 : decode cX0_read 1 = .ok (.iload_n 2, 1) := by decide +kernel
theorem dX0_read_2 : decode cX0_read 2 = .ok (.invokestatic 81, 3) := by decide +kernel
theorem dX0_read_5 : decode cX0_read 5 = .ok (.iload_n 1, 1) := by decide +kernel
theorem dX0_read_6 : decode cX0_read 6 = .ok (.iload_n 2, 1) := by decide +kernel
theorem dX0_read_7 : decode cX0_read 7 = .ok (.invokestatic 88, 3) := by decide +kernel
theorem dX0_read_10 : decode cX0_read 10 = .ok (.istore_n 3, 1) := by decide +kernel
theorem dX0_read_11 : decode cX0_read 11 = .ok (.aload_n 0, 1) := by decide +kernel
theorem dX0_read_12 : decode cX0_read 12 = .ok (.getfield 22, 3) := by decide +kernel
theorem dX0_read_15 : decode cX0_read 15 = .ok (.iload_n 3, 1) := by decide +kernel
theorem dX0_read_16 : decode cX0_read 16 = .ok (.iaload, 1) := by decide +kernel
theorem dX0_read_17 : decode cX0_read 17 = .ok (.ifCond .ne 7, 3) := by decide +kernel
theorem dX0_read_20 : decode cX0_read 20 = .ok (.iconst (-1), 1) := by decide +kernel
theorem dX0_read_21 : decode cX0_read 21 = .ok (.goto 11, 3) := by decide +kernel
theorem dX0_read_24 : decode cX0_read 24 = .ok (.aload_n 0, 1) := by decide +kernel
theorem dX0_read_25 : decode cX0_read 25 = .ok (.iload_n 3, 1) := by decide +kernel
theorem dX0_read_26 : decode cX0_read 26 = .ok (.invokevirtual 120, 3) := by decide +kernel
theorem dX0_read_29 : decode cX0_read 29 = .ok (.invokestatic 123, 3) := by decide +kernel
theorem dX0_read_32 : decode cX0_read 32 = .ok (.ireturn, 1) := by decide +kernel
theorem dX0_cost_0 : decode cX0_cost 0 = .ok (.aload_n 0, 1) := by decide +kernel
theorem dX0_cost_1 : decode cX0_cost 1 = .ok (.getfield 31, 3) := by decide +kernel
theorem dX0_cost_4 : decode cX0_cost 4 = .ok (.lreturn, 1) := by decide +kernel
set_option maxRecDepth 20000 in
theorem ggX0_walk_X0_requirePlace : GoodIn wsX0_walk wsX0_requirePlace := goodIn_ca (goodIn_r _ [6, 7, 8] (by decide +kernel) (by decide +kernel)) (goodIn_sub (fun _ h => List.mem_cons_of_mem _ (List.mem_append_left _ (List.mem_append_right _ h))) (by decide +kernel))
set_option maxRecDepth 20000 in
theorem gX0_walk_X0_requirePlace : GoodIn wsX0_walk (va_wsS RX0 85 yX0_requirePlace wsX0_requirePlace) := goodIn_app (goodIn_of _ (by decide +kernel)) ggX0_walk_X0_requirePlace
set_option maxRecDepth 20000 in
theorem ggX0_walk_X0_requireText : GoodIn wsX0_walk wsX0_requireText := goodIn_ca (goodIn_r _ [11, 12, 13] (by decide +kernel) (by decide +kernel)) (goodIn_sub (fun _ h => List.mem_cons_of_mem _ (List.mem_append_right _ h)) (by decide +kernel))
set_option maxRecDepth 20000 in
theorem gX0_walk_X0_requireText : GoodIn wsX0_walk (va_wsS RX0 91 yX0_requireText wsX0_requireText) := goodIn_app (goodIn_of _ (by decide +kernel)) ggX0_walk_X0_requireText
set_option maxRecDepth 20000 in
theorem ggX0_walk_X0_pack : GoodIn wsX0_walk wsX0_pack := goodIn_r _ [16] (by decide +kernel) (by decide +kernel)
set_option maxRecDepth 20000 in
theorem gX0_walk_X0_pack : GoodIn wsX0_walk (va_wsS RX0 94 yX0_pack wsX0_pack) := goodIn_app (goodIn_of _ (by decide +kernel)) ggX0_walk_X0_pack
set_option maxRecDepth 20000 in
theorem ggX0_walk_J7_fill_53178 : GoodIn wsX0_walk wsJ7_fill_53178 := goodIn_r _ [20] (by decide +kernel) (by decide +kernel)
set_option maxRecDepth 20000 in
theorem gX0_walk_J7_fill_53178 : GoodIn wsX0_walk (va_wsS RX0 42 yJ7_fill_53178 wsJ7_fill_53178) := goodIn_app (goodIn_of _ (by decide +kernel)) ggX0_walk_J7_fill_53178
set_option maxRecDepth 20000 in
theorem ggX0_walk_X0_stepsToArrive : GoodIn wsX0_walk wsX0_stepsToArrive := goodIn_r _ [24, 25, 26, 27, 28, 29, 5, 30, 31, 32, 33, 34, 35, 36, 37, 38, 39, 40, 41, 42, 43, 44, 45, 46, 47, 48, 49, 50, 51, 52, 53, 54, 55, 56, 57, 58, 59, 60, 61, 62, 14, 15, 16, 63, 64, 65, 66, 67, 68, 69, 70, 71, 72] (by decide +kernel) (by decide +kernel)
set_option maxRecDepth 20000 in
theorem gX0_walk_X0_stepsToArrive : GoodIn wsX0_walk (wsV RX0 126 RX0 yX0_stepsToArrive wsX0_stepsToArrive) := goodIn_app (goodIn_of _ (by decide +kernel)) ggX0_walk_X0_stepsToArrive
theorem dX0_walk_0 : decode cX0_walk 0 = .ok (.iload_n 1, 1) := by decide +kernel
theorem dX0_walk_1 : decode cX0_walk 1 = .ok (.invokestatic 85, 3) := by decide +kernel
theorem dX0_walk_4 : decode cX0_walk 4 = .ok (.iload_n 2, 1) := by decide +kernel
theorem dX0_walk_5 : decode cX0_walk 5 = .ok (.iload_n 3, 1) := by decide +kernel
theorem dX0_walk_6 : decode cX0_walk 6 = .ok (.invokestatic 91, 3) := by decide +kernel
theorem dX0_walk_9 : decode cX0_walk 9 = .ok (.iload_n 2, 1) := by decide +kernel
theorem dX0_walk_10 : decode cX0_walk 10 = .ok (.iload_n 3, 1) := by decide +kernel
theorem dX0_walk_11 : decode cX0_walk 11 = .ok (.invokestatic 94, 3) := by decide +kernel
theorem dX0_walk_14 : decode cX0_walk 14 = .ok (.istore 4, 2) := by decide +kernel
theorem dX0_walk_16 : decode cX0_walk 16 = .ok (.iload 4, 2) := by decide +kernel
theorem dX0_walk_18 : decode cX0_walk 18 = .ok (.aload_n 0, 1) := by decide +kernel
theorem dX0_walk_19 : decode cX0_walk 19 = .ok (.getfield 35, 3) := by decide +kernel
theorem dX0_walk_22 : decode cX0_walk 22 = .ok (.if_icmp .eq 18, 3) := by decide +kernel
theorem dX0_walk_25 : decode cX0_walk 25 = .ok (.aload_n 0, 1) := by decide +kernel
theorem dX0_walk_26 : decode cX0_walk 26 = .ok (.iload 4, 2) := by decide +kernel
theorem dX0_walk_28 : decode cX0_walk 28 = .ok (.putfield 35, 3) := by decide +kernel
theorem dX0_walk_31 : decode cX0_walk 31 = .ok (.aload_n 0, 1) := by decide +kernel
theorem dX0_walk_32 : decode cX0_walk 32 = .ok (.getfield 39, 3) := by decide +kernel
theorem dX0_walk_35 : decode cX0_walk 35 = .ok (.bipush (-2), 2) := by decide +kernel
theorem dX0_walk_37 : decode cX0_walk 37 = .ok (.invokestatic 42, 3) := by decide +kernel
theorem dX0_walk_40 : decode cX0_walk 40 = .ok (.aload_n 0, 1) := by decide +kernel
theorem dX0_walk_41 : decode cX0_walk 41 = .ok (.getfield 39, 3) := by decide +kernel
theorem dX0_walk_44 : decode cX0_walk 44 = .ok (.iload_n 1, 1) := by decide +kernel
theorem dX0_walk_45 : decode cX0_walk 45 = .ok (.iaload, 1) := by decide +kernel
theorem dX0_walk_46 : decode cX0_walk 46 = .ok (.bipush (-2), 2) := by decide +kernel
theorem dX0_walk_48 : decode cX0_walk 48 = .ok (.if_icmp .ne 16, 3) := by decide +kernel
theorem dX0_walk_51 : decode cX0_walk 51 = .ok (.aload_n 0, 1) := by decide +kernel
theorem dX0_walk_52 : decode cX0_walk 52 = .ok (.getfield 39, 3) := by decide +kernel
theorem dX0_walk_55 : decode cX0_walk 55 = .ok (.iload_n 1, 1) := by decide +kernel
theorem dX0_walk_56 : decode cX0_walk 56 = .ok (.aload_n 0, 1) := by decide +kernel
theorem dX0_walk_57 : decode cX0_walk 57 = .ok (.iload_n 1, 1) := by decide +kernel
theorem dX0_walk_58 : decode cX0_walk 58 = .ok (.iload 4, 2) := by decide +kernel
theorem dX0_walk_60 : decode cX0_walk 60 = .ok (.invokevirtual 126, 3) := by decide +kernel
theorem dX0_walk_63 : decode cX0_walk 63 = .ok (.iastore, 1) := by decide +kernel
theorem dX0_walk_64 : decode cX0_walk 64 = .ok (.aload_n 0, 1) := by decide +kernel
theorem dX0_walk_65 : decode cX0_walk 65 = .ok (.getfield 39, 3) := by decide +kernel
theorem dX0_walk_68 : decode cX0_walk 68 = .ok (.iload_n 1, 1) := by decide +kernel
theorem dX0_walk_69 : decode cX0_walk 69 = .ok (.iaload, 1) := by decide +kernel
theorem dX0_walk_70 : decode cX0_walk 70 = .ok (.ireturn, 1) := by decide +kernel
set_option maxRecDepth 20000 in
theorem ggX0_walkBySteps_X0_requirePlace : GoodIn wsX0_walkBySteps wsX0_requirePlace := goodIn_ca (goodIn_r _ [4, 5, 6] (by decide +kernel) (by decide +kernel)) (goodIn_sub (fun _ h => List.mem_cons_of_mem _ (List.mem_append_left _ (List.mem_append_right _ h))) (by decide +kernel))
set_option maxRecDepth 20000 in
theorem gX0_walkBySteps_X0_requirePlace : GoodIn wsX0_walkBySteps (va_wsS RX0 85 yX0_requirePlace wsX0_requirePlace) := goodIn_app (goodIn_of _ (by decide +kernel)) ggX0_walkBySteps_X0_requirePlace
set_option maxRecDepth 20000 in
theorem ggX0_walkBySteps_X0_requireText : GoodIn wsX0_walkBySteps wsX0_requireText := goodIn_ca (goodIn_r _ [9, 10, 11] (by decide +kernel) (by decide +kernel)) (goodIn_sub (fun _ h => List.mem_cons_of_mem _ (List.mem_append_right _ h)) (by decide +kernel))
set_option maxRecDepth 20000 in
theorem gX0_walkBySteps_X0_requireText : GoodIn wsX0_walkBySteps (va_wsS RX0 91 yX0_requireText wsX0_requireText) := goodIn_app (goodIn_of _ (by decide +kernel)) ggX0_walkBySteps_X0_requireText
set_option maxRecDepth 20000 in
theorem ggX0_walkBySteps_X0_pack : GoodIn wsX0_walkBySteps wsX0_pack := goodIn_r _ [14] (by decide +kernel) (by decide +kernel)
set_option maxRecDepth 20000 in
theorem gX0_walkBySteps_X0_pack : GoodIn wsX0_walkBySteps (va_wsS RX0 94 yX0_pack wsX0_pack) := goodIn_app (goodIn_of _ (by decide +kernel)) ggX0_walkBySteps_X0_pack
set_option maxRecDepth 20000 in
theorem ggX0_walkBySteps_X0_stepsToArrive : GoodIn wsX0_walkBySteps wsX0_stepsToArrive := goodIn_r _ [18, 19, 20, 21, 22, 23, 3, 24, 25, 26, 27, 28, 29, 30, 31, 32, 33, 34, 35, 36, 37, 38, 39, 40, 41, 42, 43, 44, 45, 46, 47, 48, 49, 50, 51, 52, 53, 54, 55, 56, 12, 13, 14, 57, 58, 59, 60, 61, 62, 63, 64, 65, 66] (by decide +kernel) (by decide +kernel)
set_option maxRecDepth 20000 in
theorem gX0_walkBySteps_X0_stepsToArrive : GoodIn wsX0_walkBySteps (wsV RX0 126 RX0 yX0_stepsToArrive wsX0_stepsToArrive) := goodIn_app (goodIn_of _ (by decide +kernel)) ggX0_walkBySteps_X0_stepsToArrive
theorem dX0_walkBySteps_0 : decode cX0_walkBySteps 0 = .ok (.iload_n 1, 1) := by decide +kernel
theorem dX0_walkBySteps_1 : decode cX0_walkBySteps 1 = .ok (.invokestatic 85, 3) := by decide +kernel
theorem dX0_walkBySteps_4 : decode cX0_walkBySteps 4 = .ok (.iload_n 2, 1) := by decide +kernel
theorem dX0_walkBySteps_5 : decode cX0_walkBySteps 5 = .ok (.iload_n 3, 1) := by decide +kernel
theorem dX0_walkBySteps_6 : decode cX0_walkBySteps 6 = .ok (.invokestatic 91, 3) := by decide +kernel
theorem dX0_walkBySteps_9 : decode cX0_walkBySteps 9 = .ok (.aload_n 0, 1) := by decide +kernel
theorem dX0_walkBySteps_10 : decode cX0_walkBySteps 10 = .ok (.iload_n 1, 1) := by decide +kernel
theorem dX0_walkBySteps_11 : decode cX0_walkBySteps 11 = .ok (.iload_n 2, 1) := by decide +kernel
theorem dX0_walkBySteps_12 : decode cX0_walkBySteps 12 = .ok (.iload_n 3, 1) := by decide +kernel
theorem dX0_walkBySteps_13 : decode cX0_walkBySteps 13 = .ok (.invokestatic 94, 3) := by decide +kernel
theorem dX0_walkBySteps_16 : decode cX0_walkBySteps 16 = .ok (.invokevirtual 126, 3) := by decide +kernel
theorem dX0_walkBySteps_19 : decode cX0_walkBySteps 19 = .ok (.ireturn, 1) := by decide +kernel
set_option maxRecDepth 20000 in
theorem ggX0_placeBehind_X0_requirePlace : GoodIn wsX0_placeBehind wsX0_requirePlace := goodIn_ca (goodIn_r _ [6, 7, 8] (by decide +kernel) (by decide +kernel)) (goodIn_sub (fun _ h => List.mem_cons_of_mem _ (List.mem_append_right _ h)) (by decide +kernel))
set_option maxRecDepth 20000 in
theorem gX0_placeBehind_X0_requirePlace : GoodIn wsX0_placeBehind (va_wsS RX0 85 yX0_requirePlace wsX0_requirePlace) := goodIn_app (goodIn_of _ (by decide +kernel)) ggX0_placeBehind_X0_requirePlace
set_option maxRecDepth 20000 in
theorem ggX0_placeBehind_X0_requireText : GoodIn wsX0_placeBehind wsX0_requireText := goodIn_ca (goodIn_r _ [11, 1, 2] (by decide +kernel) (by decide +kernel)) (goodIn_sub (fun _ h => List.mem_cons_of_mem _ (List.mem_append_left _ (List.mem_append_right _ h))) (by decide +kernel))
set_option maxRecDepth 20000 in
theorem gX0_placeBehind_X0_requireText : GoodIn wsX0_placeBehind (va_wsS RX0 91 yX0_requireText wsX0_requireText) := goodIn_app (goodIn_of _ (by decide +kernel)) ggX0_placeBehind_X0_requireText
set_option maxRecDepth 20000 in
theorem ggX0_placeBehind_X0_pack : GoodIn wsX0_placeBehind wsX0_pack := goodIn_r _ [14] (by decide +kernel) (by decide +kernel)
set_option maxRecDepth 20000 in
theorem gX0_placeBehind_X0_pack : GoodIn wsX0_placeBehind (va_wsS RX0 94 yX0_pack wsX0_pack) := goodIn_app (goodIn_of _ (by decide +kernel)) ggX0_placeBehind_X0_pack
set_option maxRecDepth 20000 in
theorem ggX0_placeBehind_X0_placeReached : GoodIn wsX0_placeBehind wsX0_placeReached := goodIn_r _ [18, 19, 20, 21, 22, 23, 5, 24, 25, 26, 27, 28, 29, 30, 31, 32, 33, 34, 35, 36, 37, 38, 39, 40, 41, 42, 43, 44, 45, 46, 47, 48, 49, 50, 51, 52, 53, 54, 55, 56, 12, 13, 14, 57, 58, 59, 60, 61, 62, 63, 64, 65, 66] (by decide +kernel) (by decide +kernel)
set_option maxRecDepth 20000 in
theorem gX0_placeBehind_X0_placeReached : GoodIn wsX0_placeBehind (wsV RX0 131 RX0 yX0_placeReached wsX0_placeReached) := goodIn_app (goodIn_of _ (by decide +kernel)) ggX0_placeBehind_X0_placeReached
theorem dX0_placeBehind_0 : decode cX0_placeBehind 0 = .ok (.iload_n 1, 1) := by decide +kernel
theorem dX0_placeBehind_1 : decode cX0_placeBehind 1 = .ok (.invokestatic 85, 3) := by decide +kernel
theorem dX0_placeBehind_4 : decode cX0_placeBehind 4 = .ok (.iload_n 2, 1) := by decide +kernel
theorem dX0_placeBehind_5 : decode cX0_placeBehind 5 = .ok (.iload_n 3, 1) := by decide +kernel
theorem dX0_placeBehind_6 : decode cX0_placeBehind 6 = .ok (.invokestatic 91, 3) := by decide +kernel
theorem dX0_placeBehind_9 : decode cX0_placeBehind 9 = .ok (.iload 4, 2) := by decide +kernel
theorem dX0_placeBehind_11 : decode cX0_placeBehind 11 = .ok (.ifCond .lt 10, 3) := by decide +kernel
theorem dX0_placeBehind_14 : decode cX0_placeBehind 14 = .ok (.iload 4, 2) := by decide +kernel
theorem dX0_placeBehind_16 : decode cX0_placeBehind 16 = .ok (.bipush 30, 2) := by decide +kernel
theorem dX0_placeBehind_18 : decode cX0_placeBehind 18 = .ok (.if_icmp .le 13, 3) := by decide +kernel
theorem dX0_placeBehind_21 : decode cX0_placeBehind 21 = .ok (.new 71, 3) := by decide +kernel
theorem dX0_placeBehind_24 : decode cX0_placeBehind 24 = .ok (.dup, 1) := by decide +kernel
theorem dX0_placeBehind_25 : decode cX0_placeBehind 25 = .ok (.ldc 129, 2) := by decide +kernel
theorem dX0_placeBehind_27 : decode cX0_placeBehind 27 = .ok (.invokespecial 75, 3) := by decide +kernel
theorem dX0_placeBehind_30 : decode cX0_placeBehind 30 = .ok (.athrow, 1) := by decide +kernel
theorem dX0_placeBehind_31 : decode cX0_placeBehind 31 = .ok (.aload_n 0, 1) := by decide +kernel
theorem dX0_placeBehind_32 : decode cX0_placeBehind 32 = .ok (.iload_n 1, 1) := by decide +kernel
theorem dX0_placeBehind_33 : decode cX0_placeBehind 33 = .ok (.iload_n 2, 1) := by decide +kernel
theorem dX0_placeBehind_34 : decode cX0_placeBehind 34 = .ok (.iload_n 3, 1) := by decide +kernel
theorem dX0_placeBehind_35 : decode cX0_placeBehind 35 = .ok (.invokestatic 94, 3) := by decide +kernel
theorem dX0_placeBehind_38 : decode cX0_placeBehind 38 = .ok (.iload 4, 2) := by decide +kernel
theorem dX0_placeBehind_40 : decode cX0_placeBehind 40 = .ok (.invokevirtual 131, 3) := by decide +kernel
theorem dX0_placeBehind_43 : decode cX0_placeBehind 43 = .ok (.ireturn, 1) := by decide +kernel
theorem dX0_requireGlyph_0 : decode cX0_requireGlyph 0 = .ok (.iload_n 0, 1) := by decide +kernel
theorem dX0_requireGlyph_1 : decode cX0_requireGlyph 1 = .ok (.ifCond .lt 9, 3) := by decide +kernel
theorem dX0_requireGlyph_4 : decode cX0_requireGlyph 4 = .ok (.iload_n 0, 1) := by decide +kernel
theorem dX0_requireGlyph_5 : decode cX0_requireGlyph 5 = .ok (.bipush 8, 2) := by decide +kernel
theorem dX0_requireGlyph_7 : decode cX0_requireGlyph 7 = .ok (.if_icmp .lt 13, 3) := by decide +kernel
theorem dX0_requireGlyph_10 : decode cX0_requireGlyph 10 = .ok (.new 135, 3) := by decide +kernel
theorem dX0_requireGlyph_13 : decode cX0_requireGlyph 13 = .ok (.dup, 1) := by decide +kernel
theorem dX0_requireGlyph_14 : decode cX0_requireGlyph 14 = .ok (.ldc 137, 2) := by decide +kernel
theorem dX0_requireGlyph_16 : decode cX0_requireGlyph 16 = .ok (.invokespecial 139, 3) := by decide +kernel
theorem dX0_requireGlyph_19 : decode cX0_requireGlyph 19 = .ok (.athrow, 1) := by decide +kernel
theorem dX0_requireGlyph_20 : decode cX0_requireGlyph 20 = .ok (.return_, 1) := by decide +kernel
theorem dX0_requirePlace_0 : decode cX0_requirePlace 0 = .ok (.iload_n 0, 1) := by decide +kernel
theorem dX0_requirePlace_1 : decode cX0_requirePlace 1 = .ok (.ifCond .lt 9, 3) := by decide +kernel
theorem dX0_requirePlace_4 : decode cX0_requirePlace 4 = .ok (.iload_n 0, 1) := by decide +kernel
theorem dX0_requirePlace_5 : decode cX0_requirePlace 5 = .ok (.bipush 8, 2) := by decide +kernel
theorem dX0_requirePlace_7 : decode cX0_requirePlace 7 = .ok (.if_icmp .lt 13, 3) := by decide +kernel
theorem dX0_requirePlace_10 : decode cX0_requirePlace 10 = .ok (.new 135, 3) := by decide +kernel
theorem dX0_requirePlace_13 : decode cX0_requirePlace 13 = .ok (.dup, 1) := by decide +kernel
theorem dX0_requirePlace_14 : decode cX0_requirePlace 14 = .ok (.ldc 140, 2) := by decide +kernel
theorem dX0_requirePlace_16 : decode cX0_requirePlace 16 = .ok (.invokespecial 139, 3) := by decide +kernel
theorem dX0_requirePlace_19 : decode cX0_requirePlace 19 = .ok (.athrow, 1) := by decide +kernel
theorem dX0_requirePlace_20 : decode cX0_requirePlace 20 = .ok (.return_, 1) := by decide +kernel
set_option maxRecDepth 20000 in
theorem ggX0_requireExit_X0_requirePlace : GoodIn wsX0_requireExit wsX0_requirePlace := goodIn_ca (goodIn_r _ [6, 1, 2] (by decide +kernel) (by decide +kernel)) (goodIn_sub (fun _ h => List.mem_cons_of_mem _ (List.mem_append_right _ h)) (by decide +kernel))
set_option maxRecDepth 20000 in
theorem gX0_requireExit_X0_requirePlace : GoodIn wsX0_requireExit (va_wsS RX0 85 yX0_requirePlace wsX0_requirePlace) := goodIn_app (goodIn_of _ (by decide +kernel)) ggX0_requireExit_X0_requirePlace
theorem dX0_requireExit_0 : decode cX0_requireExit 0 = .ok (.iload_n 0, 1) := by decide +kernel
theorem dX0_requireExit_1 : decode cX0_requireExit 1 = .ok (.invokestatic 85, 3) := by decide +kernel
theorem dX0_requireExit_4 : decode cX0_requireExit 4 = .ok (.iload_n 1, 1) := by decide +kernel
theorem dX0_requireExit_5 : decode cX0_requireExit 5 = .ok (.ifCond .lt 8, 3) := by decide +kernel
theorem dX0_requireExit_8 : decode cX0_requireExit 8 = .ok (.iload_n 1, 1) := by decide +kernel
theorem dX0_requireExit_9 : decode cX0_requireExit 9 = .ok (.iconst 4, 1) := by decide +kernel
theorem dX0_requireExit_10 : decode cX0_requireExit 10 = .ok (.if_icmp .lt 13, 3) := by decide +kernel
theorem dX0_requireExit_13 : decode cX0_requireExit 13 = .ok (.new 135, 3) := by decide +kernel
theorem dX0_requireExit_16 : decode cX0_requireExit 16 = .ok (.dup, 1) := by decide +kernel
theorem dX0_requireExit_17 : decode cX0_requireExit 17 = .ok (.ldc 142, 2) := by decide +kernel
theorem dX0_requireExit_19 : decode cX0_requireExit 19 = .ok (.invokespecial 139, 3) := by decide +kernel
theorem dX0_requireExit_22 : decode cX0_requireExit 22 = .ok (.athrow, 1) := by decide +kernel
theorem dX0_requireExit_23 : decode cX0_requireExit 23 = .ok (.return_, 1) := by decide +kernel
theorem dX0_requireText_0 : decode cX0_requireText 0 = .ok (.iload_n 1, 1) := by decide +kernel
theorem dX0_requireText_1 : decode cX0_requireText 1 = .ok (.iconst 1, 1) := by decide +kernel
theorem dX0_requireText_2 : decode cX0_requireText 2 = .ok (.if_icmp .lt 8, 3) := by decide +kernel
theorem dX0_requireText_5 : decode cX0_requireText 5 = .ok (.iload_n 1, 1) := by decide +kernel
theorem dX0_requireText_6 : decode cX0_requireText 6 = .ok (.iconst 5, 1) := by decide +kernel
theorem dX0_requireText_7 : decode cX0_requireText 7 = .ok (.if_icmp .le 13, 3) := by decide +kernel
theorem dX0_requireText_10 : decode cX0_requireText 10 = .ok (.new 71, 3) := by decide +kernel
theorem dX0_requireText_13 : decode cX0_requireText 13 = .ok (.dup, 1) := by decide +kernel
theorem dX0_requireText_14 : decode cX0_requireText 14 = .ok (.ldc 144, 2) := by decide +kernel
theorem dX0_requireText_16 : decode cX0_requireText 16 = .ok (.invokespecial 75, 3) := by decide +kernel
theorem dX0_requireText_19 : decode cX0_requireText 19 = .ok (.athrow, 1) := by decide +kernel
theorem dX0_requireText_20 : decode cX0_requireText 20 = .ok (.iload_n 0, 1) := by decide +kernel
theorem dX0_requireText_21 : decode cX0_requireText 21 = .ok (.ifCond .lt 12, 3) := by decide +kernel
theorem dX0_requireText_24 : decode cX0_requireText 24 = .ok (.iload_n 0, 1) := by decide +kernel
theorem dX0_requireText_25 : decode cX0_requireText 25 = .ok (.iconst 1, 1) := by decide +kernel
theorem dX0_requireText_26 : decode cX0_requireText 26 = .ok (.iconst 3, 1) := by decide +kernel
theorem dX0_requireText_27 : decode cX0_requireText 27 = .ok (.iload_n 1, 1) := by decide +kernel
theorem dX0_requireText_28 : decode cX0_requireText 28 = .ok (.imul, 1) := by decide +kernel
theorem dX0_requireText_29 : decode cX0_requireText 29 = .ok (.ishl, 1) := by decide +kernel
theorem dX0_requireText_30 : decode cX0_requireText 30 = .ok (.if_icmp .lt 13, 3) := by decide +kernel
theorem dX0_requireText_33 : decode cX0_requireText 33 = .ok (.new 71, 3) := by decide +kernel
theorem dX0_requireText_36 : decode cX0_requireText 36 = .ok (.dup, 1) := by decide +kernel
theorem dX0_requireText_37 : decode cX0_requireText 37 = .ok (.ldc 146, 2) := by decide +kernel
theorem dX0_requireText_39 : decode cX0_requireText 39 = .ok (.invokespecial 75, 3) := by decide +kernel
theorem dX0_requireText_42 : decode cX0_requireText 42 = .ok (.athrow, 1) := by decide +kernel
theorem dX0_requireText_43 : decode cX0_requireText 43 = .ok (.return_, 1) := by decide +kernel
set_option maxRecDepth 20000 in
theorem ggX0_requireLine_X0_isCell : GoodIn wsX0_requireLine wsX0_isCell := goodIn_r _ [10] (by decide +kernel) (by decide +kernel)
set_option maxRecDepth 20000 in
theorem gX0_requireLine_X0_isCell : GoodIn wsX0_requireLine (va_wsS RX0 148 yX0_isCell wsX0_isCell) := goodIn_app (goodIn_of _ (by decide +kernel)) ggX0_requireLine_X0_isCell
theorem dX0_requireLine_0 : decode cX0_requireLine 0 = .ok (.iload_n 0, 1) := by decide +kernel
theorem dX0_requireLine_1 : decode cX0_requireLine 1 = .ok (.iload_n 1, 1) := by decide +kernel
theorem dX0_requireLine_2 : decode cX0_requireLine 2 = .ok (.invokestatic 148, 3) := by decide +kernel
theorem dX0_requireLine_5 : decode cX0_requireLine 5 = .ok (.ifCond .eq 11, 3) := by decide +kernel
theorem dX0_requireLine_8 : decode cX0_requireLine 8 = .ok (.iload_n 2, 1) := by decide +kernel
theorem dX0_requireLine_9 : decode cX0_requireLine 9 = .ok (.iload_n 3, 1) := by decide +kernel
theorem dX0_requireLine_10 : decode cX0_requireLine 10 = .ok (.invokestatic 148, 3) := by decide +kernel
theorem dX0_requireLine_13 : decode cX0_requireLine 13 = .ok (.ifCond .ne 13, 3) := by decide +kernel
theorem dX0_requireLine_16 : decode cX0_requireLine 16 = .ok (.new 71, 3) := by decide +kernel
theorem dX0_requireLine_19 : decode cX0_requireLine 19 = .ok (.dup, 1) := by decide +kernel
theorem dX0_requireLine_20 : decode cX0_requireLine 20 = .ok (.ldc 152, 2) := by decide +kernel
theorem dX0_requireLine_22 : decode cX0_requireLine 22 = .ok (.invokespecial 75, 3) := by decide +kernel
theorem dX0_requireLine_25 : decode cX0_requireLine 25 = .ok (.athrow, 1) := by decide +kernel
theorem dX0_requireLine_26 : decode cX0_requireLine 26 = .ok (.iload_n 2, 1) := by decide +kernel
theorem dX0_requireLine_27 : decode cX0_requireLine 27 = .ok (.iload_n 0, 1) := by decide +kernel
theorem dX0_requireLine_28 : decode cX0_requireLine 28 = .ok (.isub, 1) := by decide +kernel
theorem dX0_requireLine_29 : decode cX0_requireLine 29 = .ok (.invokestatic 154, 3) := by decide +kernel
theorem dX0_requireLine_32 : decode cX0_requireLine 32 = .ok (.istore 4, 2) := by decide +kernel
theorem dX0_requireLine_34 : decode cX0_requireLine 34 = .ok (.iload_n 3, 1) := by decide +kernel
theorem dX0_requireLine_35 : decode cX0_requireLine 35 = .ok (.iload_n 1, 1) := by decide +kernel
theorem dX0_requireLine_36 : decode cX0_requireLine 36 = .ok (.isub, 1) := by decide +kernel
theorem dX0_requireLine_37 : decode cX0_requireLine 37 = .ok (.invokestatic 154, 3) := by decide +kernel
theorem dX0_requireLine_40 : decode cX0_requireLine 40 = .ok (.istore 5, 2) := by decide +kernel
theorem dX0_requireLine_42 : decode cX0_requireLine 42 = .ok (.iload 4, 2) := by decide +kernel
theorem dX0_requireLine_44 : decode cX0_requireLine 44 = .ok (.ifCond .eq 25, 3) := by decide +kernel
theorem dX0_requireLine_47 : decode cX0_requireLine 47 = .ok (.iload 5, 2) := by decide +kernel
theorem dX0_requireLine_49 : decode cX0_requireLine 49 = .ok (.ifCond .eq 20, 3) := by decide +kernel
theorem dX0_requireLine_52 : decode cX0_requireLine 52 = .ok (.iload 4, 2) := by decide +kernel
theorem dX0_requireLine_54 : decode cX0_requireLine 54 = .ok (.iload 5, 2) := by decide +kernel
theorem dX0_requireLine_56 : decode cX0_requireLine 56 = .ok (.if_icmp .eq 13, 3) := by decide +kernel
theorem dX0_requireLine_59 : decode cX0_requireLine 59 = .ok (.new 71, 3) := by decide +kernel
theorem dX0_requireLine_62 : decode cX0_requireLine 62 = .ok (.dup, 1) := by decide +kernel
theorem dX0_requireLine_63 : decode cX0_requireLine 63 = .ok (.ldc 159, 2) := by decide +kernel
theorem dX0_requireLine_65 : decode cX0_requireLine 65 = .ok (.invokespecial 75, 3) := by decide +kernel
theorem dX0_requireLine_68 : decode cX0_requireLine 68 = .ok (.athrow, 1) := by decide +kernel
theorem dX0_requireLine_69 : decode cX0_requireLine 69 = .ok (.return_, 1) := by decide +kernel
theorem dX0_isCell_0 : decode cX0_isCell 0 = .ok (.iload_n 0, 1) := by decide +kernel
theorem dX0_isCell_1 : decode cX0_isCell 1 = .ok (.ifCond .lt 21, 3) := by decide +kernel
theorem dX0_isCell_4 : decode cX0_isCell 4 = .ok (.iload_n 0, 1) := by decide +kernel
theorem dX0_isCell_5 : decode cX0_isCell 5 = .ok (.iconst 5, 1) := by decide +kernel
theorem dX0_isCell_6 : decode cX0_isCell 6 = .ok (.if_icmp .ge 16, 3) := by decide +kernel
theorem dX0_isCell_9 : decode cX0_isCell 9 = .ok (.iload_n 1, 1) := by decide +kernel
theorem dX0_isCell_10 : decode cX0_isCell 10 = .ok (.ifCond .lt 12, 3) := by decide +kernel
theorem dX0_isCell_13 : decode cX0_isCell 13 = .ok (.iload_n 1, 1) := by decide +kernel
theorem dX0_isCell_14 : decode cX0_isCell 14 = .ok (.iconst 5, 1) := by decide +kernel
theorem dX0_isCell_15 : decode cX0_isCell 15 = .ok (.if_icmp .ge 7, 3) := by decide +kernel
theorem dX0_isCell_18 : decode cX0_isCell 18 = .ok (.iconst 1, 1) := by decide +kernel
theorem dX0_isCell_19 : decode cX0_isCell 19 = .ok (.goto 4, 3) := by decide +kernel
theorem dX0_isCell_22 : decode cX0_isCell 22 = .ok (.iconst 0, 1) := by decide +kernel
theorem dX0_isCell_23 : decode cX0_isCell 23 = .ok (.ireturn, 1) := by decide +kernel
set_option maxRecDepth 20000 in
theorem ggX0_lineCells_X0_direction : GoodIn wsX0_lineCells wsX0_direction := goodIn_r _ [11] (by decide +kernel) (by decide +kernel)
set_option maxRecDepth 20000 in
theorem gX0_lineCells_X0_direction : GoodIn wsX0_lineCells (va_wsS RX0 164 yX0_direction wsX0_direction) := goodIn_app (goodIn_of _ (by decide +kernel)) ggX0_lineCells_X0_direction
theorem dX0_lineCells_0 : decode cX0_lineCells 0 = .ok (.iload_n 2, 1) := by decide +kernel
theorem dX0_lineCells_1 : decode cX0_lineCells 1 = .ok (.iload_n 0, 1) := by decide +kernel
theorem dX0_lineCells_2 : decode cX0_lineCells 2 = .ok (.isub, 1) := by decide +kernel
theorem dX0_lineCells_3 : decode cX0_lineCells 3 = .ok (.invokestatic 154, 3) := by decide +kernel
theorem dX0_lineCells_6 : decode cX0_lineCells 6 = .ok (.iload_n 3, 1) := by decide +kernel
theorem dX0_lineCells_7 : decode cX0_lineCells 7 = .ok (.iload_n 1, 1) := by decide +kernel
theorem dX0_lineCells_8 : decode cX0_lineCells 8 = .ok (.isub, 1) := by decide +kernel
theorem dX0_lineCells_9 : decode cX0_lineCells 9 = .ok (.invokestatic 154, 3) := by decide +kernel
theorem dX0_lineCells_12 : decode cX0_lineCells 12 = .ok (.invokestatic 161, 3) := by decide +kernel
theorem dX0_lineCells_15 : decode cX0_lineCells 15 = .ok (.istore 4, 2) := by decide +kernel
theorem dX0_lineCells_17 : decode cX0_lineCells 17 = .ok (.iload_n 0, 1) := by decide +kernel
theorem dX0_lineCells_18 : decode cX0_lineCells 18 = .ok (.iload_n 2, 1) := by decide +kernel
theorem dX0_lineCells_19 : decode cX0_lineCells 19 = .ok (.invokestatic 164, 3) := by decide +kernel
theorem dX0_lineCells_22 : decode cX0_lineCells 22 = .ok (.istore 5, 2) := by decide +kernel
theorem dX0_lineCells_24 : decode cX0_lineCells 24 = .ok (.iload_n 1, 1) := by decide +kernel
theorem dX0_lineCells_25 : decode cX0_lineCells 25 = .ok (.iload_n 3, 1) := by decide +kernel
theorem dX0_lineCells_26 : decode cX0_lineCells 26 = .ok (.invokestatic 164, 3) := by decide +kernel
theorem dX0_lineCells_29 : decode cX0_lineCells 29 = .ok (.istore 6, 2) := by decide +kernel
theorem dX0_lineCells_31 : decode cX0_lineCells 31 = .ok (.iconst 0, 1) := by decide +kernel
theorem dX0_lineCells_32 : decode cX0_lineCells 32 = .ok (.istore 7, 2) := by decide +kernel
theorem dX0_lineCells_34 : decode cX0_lineCells 34 = .ok (.iconst 0, 1) := by decide +kernel
theorem dX0_lineCells_35 : decode cX0_lineCells 35 = .ok (.istore 8, 2) := by decide +kernel
theorem dX0_lineCells_37 : decode cX0_lineCells 37 = .ok (.iload 8, 2) := by decide +kernel
theorem dX0_lineCells_39 : decode cX0_lineCells 39 = .ok (.iload 4, 2) := by decide +kernel
theorem dX0_lineCells_41 : decode cX0_lineCells 41 = .ok (.if_icmp .gt 33, 3) := by decide +kernel
theorem dX0_lineCells_44 : decode cX0_lineCells 44 = .ok (.iload 7, 2) := by decide +kernel
theorem dX0_lineCells_46 : decode cX0_lineCells 46 = .ok (.iconst 1, 1) := by decide +kernel
theorem dX0_lineCells_47 : decode cX0_lineCells 47 = .ok (.iload_n 1, 1) := by decide +kernel
theorem dX0_lineCells_48 : decode cX0_lineCells 48 = .ok (.iload 8, 2) := by decide +kernel
theorem dX0_lineCells_50 : decode cX0_lineCells 50 = .ok (.iload 6, 2) := by decide +kernel
theorem dX0_lineCells_52 : decode cX0_lineCells 52 = .ok (.imul, 1) := by decide +kernel
theorem dX0_lineCells_53 : decode cX0_lineCells 53 = .ok (.iadd, 1) := by decide +kernel
theorem dX0_lineCells_54 : decode cX0_lineCells 54 = .ok (.iconst 5, 1) := by decide +kernel
theorem dX0_lineCells_55 : decode cX0_lineCells 55 = .ok (.imul, 1) := by decide +kernel
theorem dX0_lineCells_56 : decode cX0_lineCells 56 = .ok (.iload_n 0, 1) := by decide +kernel
theorem dX0_lineCells_57 : decode cX0_lineCells 57 = .ok (.iadd, 1) := by decide +kernel
theorem dX0_lineCells_58 : decode cX0_lineCells 58 = .ok (.iload 8, 2) := by decide +kernel
theorem dX0_lineCells_60 : decode cX0_lineCells 60 = .ok (.iload 5, 2) := by decide +kernel
theorem dX0_lineCells_62 : decode cX0_lineCells 62 = .ok (.imul, 1) := by decide +kernel
theorem dX0_lineCells_63 : decode cX0_lineCells 63 = .ok (.iadd, 1) := by decide +kernel
theorem dX0_lineCells_64 : decode cX0_lineCells 64 = .ok (.ishl, 1) := by decide +kernel
theorem dX0_lineCells_65 : decode cX0_lineCells 65 = .ok (.ior, 1) := by decide +kernel
theorem dX0_lineCells_66 : decode cX0_lineCells 66 = .ok (.istore 7, 2) := by decide +kernel
theorem dX0_lineCells_68 : decode cX0_lineCells 68 = .ok (.iinc 8 1, 3) := by decide +kernel
theorem dX0_lineCells_71 : decode cX0_lineCells 71 = .ok (.goto (-34), 3) := by decide +kernel
theorem dX0_lineCells_74 : decode cX0_lineCells 74 = .ok (.iload 7, 2) := by decide +kernel
theorem dX0_lineCells_76 : decode cX0_lineCells 76 = .ok (.ireturn, 1) := by decide +kernel
theorem dX0_direction_0 : decode cX0_direction 0 = .ok (.iload_n 1, 1) := by decide +kernel
theorem dX0_direction_1 : decode cX0_direction 1 = .ok (.iload_n 0, 1) := by decide +kernel
theorem dX0_direction_2 : decode cX0_direction 2 = .ok (.if_icmp .le 7, 3) := by decide +kernel
theorem dX0_direction_5 : decode cX0_direction 5 = .ok (.iconst 1, 1) := by decide +kernel
theorem dX0_direction_6 : decode cX0_direction 6 = .ok (.goto 13, 3) := by decide +kernel
theorem dX0_direction_9 : decode cX0_direction 9 = .ok (.iload_n 1, 1) := by decide +kernel
theorem dX0_direction_10 : decode cX0_direction 10 = .ok (.iload_n 0, 1) := by decide +kernel
theorem dX0_direction_11 : decode cX0_direction 11 = .ok (.if_icmp .ge 7, 3) := by decide +kernel
theorem dX0_direction_14 : decode cX0_direction 14 = .ok (.iconst (-1), 1) := by decide +kernel
theorem dX0_direction_15 : decode cX0_direction 15 = .ok (.goto 4, 3) := by decide +kernel
theorem dX0_direction_18 : decode cX0_direction 18 = .ok (.iconst 0, 1) := by decide +kernel
theorem dX0_direction_19 : decode cX0_direction 19 = .ok (.ireturn, 1) := by decide +kernel
set_option maxRecDepth 20000 in
theorem ggX0_differing_J6_bitCount_0f7a4 : GoodIn wsX0_differing wsJ6_bitCount_0f7a4 := goodIn_r _ [4, 5, 6, 7] (by decide +kernel) (by decide +kernel)
set_option maxRecDepth 20000 in
theorem gX0_differing_J6_bitCount_0f7a4 : GoodIn wsX0_differing (va_wsS RX0 167 yJ6_bitCount_0f7a4 wsJ6_bitCount_0f7a4) := goodIn_app (goodIn_of _ (by decide +kernel)) ggX0_differing_J6_bitCount_0f7a4
theorem dX0_differing_0 : decode cX0_differing 0 = .ok (.iload_n 0, 1) := by decide +kernel
theorem dX0_differing_1 : decode cX0_differing 1 = .ok (.iload_n 1, 1) := by decide +kernel
theorem dX0_differing_2 : decode cX0_differing 2 = .ok (.ixor, 1) := by decide +kernel
theorem dX0_differing_3 : decode cX0_differing 3 = .ok (.invokestatic 167, 3) := by decide +kernel
theorem dX0_differing_6 : decode cX0_differing 6 = .ok (.ireturn, 1) := by decide +kernel
set_option maxRecDepth 20000 in
theorem ggX0_shapeWidth_X0_hasColumn : GoodIn wsX0_shapeWidth wsX0_hasColumn := goodIn_r _ [4, 5, 6, 3, 7, 8, 9, 10, 11, 12, 13, 14, 15, 16, 17] (by decide +kernel) (by decide +kernel)
set_option maxRecDepth 20000 in
theorem gX0_shapeWidth_X0_hasColumn : GoodIn wsX0_shapeWidth (va_wsS RX0 172 yX0_hasColumn wsX0_hasColumn) := goodIn_app (goodIn_of _ (by decide +kernel)) ggX0_shapeWidth_X0_hasColumn
theorem dX0_shapeWidth_0 : decode cX0_shapeWidth 0 = .ok (.iconst (-1), 1) := by decide +kernel
theorem dX0_shapeWidth_1 : decode cX0_shapeWidth 1 = .ok (.istore_n 1, 1) := by decide +kernel
theorem dX0_shapeWidth_2 : decode cX0_shapeWidth 2 = .ok (.iconst (-1), 1) := by decide +kernel
theorem dX0_shapeWidth_3 : decode cX0_shapeWidth 3 = .ok (.istore_n 2, 1) := by decide +kernel
theorem dX0_shapeWidth_4 : decode cX0_shapeWidth 4 = .ok (.iconst 0, 1) := by decide +kernel
theorem dX0_shapeWidth_5 : decode cX0_shapeWidth 5 = .ok (.istore_n 3, 1) := by decide +kernel
theorem dX0_shapeWidth_6 : decode cX0_shapeWidth 6 = .ok (.iload_n 3, 1) := by decide +kernel
theorem dX0_shapeWidth_7 : decode cX0_shapeWidth 7 = .ok (.iconst 5, 1) := by decide +kernel
theorem dX0_shapeWidth_8 : decode cX0_shapeWidth 8 = .ok (.if_icmp .ge 30, 3) := by decide +kernel
theorem dX0_shapeWidth_11 : decode cX0_shapeWidth 11 = .ok (.iload_n 0, 1) := by decide +kernel
theorem dX0_shapeWidth_12 : decode cX0_shapeWidth 12 = .ok (.iload_n 3, 1) := by decide +kernel
theorem dX0_shapeWidth_13 : decode cX0_shapeWidth 13 = .ok (.invokestatic 172, 3) := by decide +kernel
theorem dX0_shapeWidth_16 : decode cX0_shapeWidth 16 = .ok (.ifCond .eq 16, 3) := by decide +kernel
theorem dX0_shapeWidth_19 : decode cX0_shapeWidth 19 = .ok (.iload_n 1, 1) := by decide +kernel
theorem dX0_shapeWidth_20 : decode cX0_shapeWidth 20 = .ok (.iconst (-1), 1) := by decide +kernel
theorem dX0_shapeWidth_21 : decode cX0_shapeWidth 21 = .ok (.if_icmp .ne 7, 3) := by decide +kernel
theorem dX0_shapeWidth_24 : decode cX0_shapeWidth 24 = .ok (.iload_n 3, 1) := by decide +kernel
theorem dX0_shapeWidth_25 : decode cX0_shapeWidth 25 = .ok (.goto 4, 3) := by decide +kernel
theorem dX0_shapeWidth_28 : decode cX0_shapeWidth 28 = .ok (.iload_n 1, 1) := by decide +kernel
theorem dX0_shapeWidth_29 : decode cX0_shapeWidth 29 = .ok (.istore_n 1, 1) := by decide +kernel
theorem dX0_shapeWidth_30 : decode cX0_shapeWidth 30 = .ok (.iload_n 3, 1) := by decide +kernel
theorem dX0_shapeWidth_31 : decode cX0_shapeWidth 31 = .ok (.istore_n 2, 1) := by decide +kernel
theorem dX0_shapeWidth_32 : decode cX0_shapeWidth 32 = .ok (.iinc 3 1, 3) := by decide +kernel
theorem dX0_shapeWidth_35 : decode cX0_shapeWidth 35 = .ok (.goto (-29), 3) := by decide +kernel
theorem dX0_shapeWidth_38 : decode cX0_shapeWidth 38 = .ok (.iload_n 1, 1) := by decide +kernel
theorem dX0_shapeWidth_39 : decode cX0_shapeWidth 39 = .ok (.iconst (-1), 1) := by decide +kernel
theorem dX0_shapeWidth_40 : decode cX0_shapeWidth 40 = .ok (.if_icmp .ne 7, 3) := by decide +kernel
theorem dX0_shapeWidth_43 : decode cX0_shapeWidth 43 = .ok (.iconst 2, 1) := by decide +kernel
theorem dX0_shapeWidth_44 : decode cX0_shapeWidth 44 = .ok (.goto 8, 3) := by decide +kernel
theorem dX0_shapeWidth_47 : decode cX0_shapeWidth 47 = .ok (.iload_n 2, 1) := by decide +kernel
theorem dX0_shapeWidth_48 : decode cX0_shapeWidth 48 = .ok (.iload_n 1, 1) := by decide +kernel
theorem dX0_shapeWidth_49 : decode cX0_shapeWidth 49 = .ok (.isub, 1) := by decide +kernel
theorem dX0_shapeWidth_50 : decode cX0_shapeWidth 50 = .ok (.iconst 1, 1) := by decide +kernel
theorem dX0_shapeWidth_51 : decode cX0_shapeWidth 51 = .ok (.iadd, 1) := by decide +kernel
theorem dX0_shapeWidth_52 : decode cX0_shapeWidth 52 = .ok (.ireturn, 1) := by decide +kernel
set_option maxRecDepth 20000 in
theorem ggX0_hasColumn_X0_lineCells : GoodIn wsX0_hasColumn wsX0_lineCells := goodIn_r _ [4, 5, 6, 7, 8, 9, 10, 11, 12, 13, 3, 14] (by decide +kernel) (by decide +kernel)
set_option maxRecDepth 20000 in
theorem gX0_hasColumn_X0_lineCells : GoodIn wsX0_hasColumn (va_wsS RX0 56 yX0_lineCells wsX0_lineCells) := goodIn_app (goodIn_of _ (by decide +kernel)) ggX0_hasColumn_X0_lineCells
theorem dX0_hasColumn_0 : decode cX0_hasColumn 0 = .ok (.iload_n 0, 1) := by decide +kernel
theorem dX0_hasColumn_1 : decode cX0_hasColumn 1 = .ok (.iload_n 1, 1) := by decide +kernel
theorem dX0_hasColumn_2 : decode cX0_hasColumn 2 = .ok (.iconst 0, 1) := by decide +kernel
theorem dX0_hasColumn_3 : decode cX0_hasColumn 3 = .ok (.iload_n 1, 1) := by decide +kernel
theorem dX0_hasColumn_4 : decode cX0_hasColumn 4 = .ok (.iconst 4, 1) := by decide +kernel
theorem dX0_hasColumn_5 : decode cX0_hasColumn 5 = .ok (.invokestatic 56, 3) := by decide +kernel
theorem dX0_hasColumn_8 : decode cX0_hasColumn 8 = .ok (.iand, 1) := by decide +kernel
theorem dX0_hasColumn_9 : decode cX0_hasColumn 9 = .ok (.ifCond .eq 7, 3) := by decide +kernel
theorem dX0_hasColumn_12 : decode cX0_hasColumn 12 = .ok (.iconst 1, 1) := by decide +kernel
theorem dX0_hasColumn_13 : decode cX0_hasColumn 13 = .ok (.goto 4, 3) := by decide +kernel
theorem dX0_hasColumn_16 : decode cX0_hasColumn 16 = .ok (.iconst 0, 1) := by decide +kernel
theorem dX0_hasColumn_17 : decode cX0_hasColumn 17 = .ok (.ireturn, 1) := by decide +kernel
theorem dX0_pairOf_0 : decode cX0_pairOf 0 = .ok (.iload_n 0, 1) := by decide +kernel
theorem dX0_pairOf_1 : decode cX0_pairOf 1 = .ok (.bipush 8, 2) := by decide +kernel
theorem dX0_pairOf_3 : decode cX0_pairOf 3 = .ok (.imul, 1) := by decide +kernel
theorem dX0_pairOf_4 : decode cX0_pairOf 4 = .ok (.iload_n 1, 1) := by decide +kernel
theorem dX0_pairOf_5 : decode cX0_pairOf 5 = .ok (.iadd, 1) := by decide +kernel
theorem dX0_pairOf_6 : decode cX0_pairOf 6 = .ok (.ireturn, 1) := by decide +kernel
theorem dX0_pack_0 : decode cX0_pack 0 = .ok (.iload_n 1, 1) := by decide +kernel
theorem dX0_pack_1 : decode cX0_pack 1 = .ok (.bipush 15, 2) := by decide +kernel
theorem dX0_pack_3 : decode cX0_pack 3 = .ok (.ishl, 1) := by decide +kernel
theorem dX0_pack_4 : decode cX0_pack 4 = .ok (.iload_n 0, 1) := by decide +kernel
theorem dX0_pack_5 : decode cX0_pack 5 = .ok (.ior, 1) := by decide +kernel
theorem dX0_pack_6 : decode cX0_pack 6 = .ok (.ireturn, 1) := by decide +kernel
theorem dX0_manyOf_0 : decode cX0_manyOf 0 = .ok (.iload_n 0, 1) := by decide +kernel
theorem dX0_manyOf_1 : decode cX0_manyOf 1 = .ok (.bipush 15, 2) := by decide +kernel
theorem dX0_manyOf_3 : decode cX0_manyOf 3 = .ok (.ishr, 1) := by decide +kernel
theorem dX0_manyOf_4 : decode cX0_manyOf 4 = .ok (.ireturn, 1) := by decide +kernel
theorem dX0_numberOf_0 : decode cX0_numberOf 0 = .ok (.iload_n 0, 1) := by decide +kernel
theorem dX0_numberOf_1 : decode cX0_numberOf 1 = .ok (.sipush 32767, 3) := by decide +kernel
theorem dX0_numberOf_4 : decode cX0_numberOf 4 = .ok (.iand, 1) := by decide +kernel
theorem dX0_numberOf_5 : decode cX0_numberOf 5 = .ok (.ireturn, 1) := by decide +kernel
theorem dX0_glyphAt_0 : decode cX0_glyphAt 0 = .ok (.iload_n 0, 1) := by decide +kernel
theorem dX0_glyphAt_1 : decode cX0_glyphAt 1 = .ok (.iconst 3, 1) := by decide +kernel
theorem dX0_glyphAt_2 : decode cX0_glyphAt 2 = .ok (.iload_n 1, 1) := by decide +kernel
theorem dX0_glyphAt_3 : decode cX0_glyphAt 3 = .ok (.imul, 1) := by decide +kernel
theorem dX0_glyphAt_4 : decode cX0_glyphAt 4 = .ok (.ishr, 1) := by decide +kernel
theorem dX0_glyphAt_5 : decode cX0_glyphAt 5 = .ok (.bipush 7, 2) := by decide +kernel
theorem dX0_glyphAt_7 : decode cX0_glyphAt 7 = .ok (.iand, 1) := by decide +kernel
theorem dX0_glyphAt_8 : decode cX0_glyphAt 8 = .ok (.ireturn, 1) := by decide +kernel
set_option maxRecDepth 20000 in
theorem ggX0_packedWidth_X0_manyOf : GoodIn wsX0_packedWidth wsX0_manyOf := goodIn_r _ [6] (by decide +kernel) (by decide +kernel)
set_option maxRecDepth 20000 in
theorem gX0_packedWidth_X0_manyOf : GoodIn wsX0_packedWidth (va_wsS RX0 175 yX0_manyOf wsX0_manyOf) := goodIn_app (goodIn_of _ (by decide +kernel)) ggX0_packedWidth_X0_manyOf
set_option maxRecDepth 20000 in
theorem ggX0_packedWidth_X0_glyphAt : GoodIn wsX0_packedWidth wsX0_glyphAt := goodIn_r _ [9] (by decide +kernel) (by decide +kernel)
set_option maxRecDepth 20000 in
theorem gX0_packedWidth_X0_glyphAt : GoodIn wsX0_packedWidth (va_wsS RX0 178 yX0_glyphAt wsX0_glyphAt) := goodIn_app (goodIn_of _ (by decide +kernel)) ggX0_packedWidth_X0_glyphAt
set_option maxRecDepth 20000 in
theorem ggX0_packedWidth_X0_shapeWidth : GoodIn wsX0_packedWidth wsX0_shapeWidth := goodIn_r _ [12, 13, 14, 5, 15, 16, 17, 18, 19, 20, 21, 22, 23, 24, 25, 26, 27, 28] (by decide +kernel) (by decide +kernel)
set_option maxRecDepth 20000 in
theorem gX0_packedWidth_X0_shapeWidth : GoodIn wsX0_packedWidth (va_wsS RX0 67 yX0_shapeWidth wsX0_shapeWidth) := goodIn_app (goodIn_of _ (by decide +kernel)) ggX0_packedWidth_X0_shapeWidth
set_option maxRecDepth 20000 in
theorem ggX0_packedWidth_X0_pairOf : GoodIn wsX0_packedWidth wsX0_pairOf := goodIn_r _ [31] (by decide +kernel) (by decide +kernel)
set_option maxRecDepth 20000 in
theorem gX0_packedWidth_X0_pairOf : GoodIn wsX0_packedWidth (va_wsS RX0 78 yX0_pairOf wsX0_pairOf) := goodIn_app (goodIn_of _ (by decide +kernel)) ggX0_packedWidth_X0_pairOf
theorem dX0_packedWidth_0 : decode cX0_packedWidth 0 = .ok (.iconst 0, 1) := by decide +kernel
theorem dX0_packedWidth_1 : decode cX0_packedWidth 1 = .ok (.istore_n 2, 1) := by decide +kernel
theorem dX0_packedWidth_2 : decode cX0_packedWidth 2 = .ok (.iconst 0, 1) := by decide +kernel
theorem dX0_packedWidth_3 : decode cX0_packedWidth 3 = .ok (.istore_n 3, 1) := by decide +kernel
theorem dX0_packedWidth_4 : decode cX0_packedWidth 4 = .ok (.iload_n 3, 1) := by decide +kernel
theorem dX0_packedWidth_5 : decode cX0_packedWidth 5 = .ok (.iload_n 1, 1) := by decide +kernel
theorem dX0_packedWidth_6 : decode cX0_packedWidth 6 = .ok (.invokestatic 175, 3) := by decide +kernel
theorem dX0_packedWidth_9 : decode cX0_packedWidth 9 = .ok (.if_icmp .ge 53, 3) := by decide +kernel
theorem dX0_packedWidth_12 : decode cX0_packedWidth 12 = .ok (.iload_n 1, 1) := by decide +kernel
theorem dX0_packedWidth_13 : decode cX0_packedWidth 13 = .ok (.iload_n 3, 1) := by decide +kernel
theorem dX0_packedWidth_14 : decode cX0_packedWidth 14 = .ok (.invokestatic 178, 3) := by decide +kernel
theorem dX0_packedWidth_17 : decode cX0_packedWidth 17 = .ok (.istore 4, 2) := by decide +kernel
theorem dX0_packedWidth_19 : decode cX0_packedWidth 19 = .ok (.iload_n 2, 1) := by decide +kernel
theorem dX0_packedWidth_20 : decode cX0_packedWidth 20 = .ok (.aload_n 0, 1) := by decide +kernel
theorem dX0_packedWidth_21 : decode cX0_packedWidth 21 = .ok (.getfield 9, 3) := by decide +kernel
theorem dX0_packedWidth_24 : decode cX0_packedWidth 24 = .ok (.iload 4, 2) := by decide +kernel
theorem dX0_packedWidth_26 : decode cX0_packedWidth 26 = .ok (.iaload, 1) := by decide +kernel
theorem dX0_packedWidth_27 : decode cX0_packedWidth 27 = .ok (.invokestatic 67, 3) := by decide +kernel
theorem dX0_packedWidth_30 : decode cX0_packedWidth 30 = .ok (.iadd, 1) := by decide +kernel
theorem dX0_packedWidth_31 : decode cX0_packedWidth 31 = .ok (.istore_n 2, 1) := by decide +kernel
theorem dX0_packedWidth_32 : decode cX0_packedWidth 32 = .ok (.iload_n 3, 1) := by decide +kernel
theorem dX0_packedWidth_33 : decode cX0_packedWidth 33 = .ok (.ifCond .le 23, 3) := by decide +kernel
theorem dX0_packedWidth_36 : decode cX0_packedWidth 36 = .ok (.iload_n 2, 1) := by decide +kernel
theorem dX0_packedWidth_37 : decode cX0_packedWidth 37 = .ok (.aload_n 0, 1) := by decide +kernel
theorem dX0_packedWidth_38 : decode cX0_packedWidth 38 = .ok (.getfield 13, 3) := by decide +kernel
theorem dX0_packedWidth_41 : decode cX0_packedWidth 41 = .ok (.iload 4, 2) := by decide +kernel
theorem dX0_packedWidth_43 : decode cX0_packedWidth 43 = .ok (.iload_n 1, 1) := by decide +kernel
theorem dX0_packedWidth_44 : decode cX0_packedWidth 44 = .ok (.iload_n 3, 1) := by decide +kernel
theorem dX0_packedWidth_45 : decode cX0_packedWidth 45 = .ok (.iconst 1, 1) := by decide +kernel
theorem dX0_packedWidth_46 : decode cX0_packedWidth 46 = .ok (.isub, 1) := by decide +kernel
theorem dX0_packedWidth_47 : decode cX0_packedWidth 47 = .ok (.invokestatic 178, 3) := by decide +kernel
theorem dX0_packedWidth_50 : decode cX0_packedWidth 50 = .ok (.invokestatic 78, 3) := by decide +kernel
theorem dX0_packedWidth_53 : decode cX0_packedWidth 53 = .ok (.iaload, 1) := by decide +kernel
theorem dX0_packedWidth_54 : decode cX0_packedWidth 54 = .ok (.iadd, 1) := by decide +kernel
theorem dX0_packedWidth_55 : decode cX0_packedWidth 55 = .ok (.istore_n 2, 1) := by decide +kernel
theorem dX0_packedWidth_56 : decode cX0_packedWidth 56 = .ok (.iinc 3 1, 3) := by decide +kernel
theorem dX0_packedWidth_59 : decode cX0_packedWidth 59 = .ok (.goto (-55), 3) := by decide +kernel
theorem dX0_packedWidth_62 : decode cX0_packedWidth 62 = .ok (.iload_n 2, 1) := by decide +kernel
theorem dX0_packedWidth_63 : decode cX0_packedWidth 63 = .ok (.ireturn, 1) := by decide +kernel
set_option maxRecDepth 20000 in
theorem ggX0_plateFor_X0_packedWidth : GoodIn wsX0_plateFor wsX0_packedWidth := goodIn_r _ [5, 6, 7, 8, 9, 4, 10, 11, 12, 13, 14, 15, 16, 17, 18, 19, 20, 21, 22, 23, 24, 25, 26, 27, 28, 29, 30, 31, 32, 33, 34, 35, 36, 37, 38, 39, 40, 41, 42, 43, 44, 45] (by decide +kernel) (by decide +kernel)
set_option maxRecDepth 20000 in
theorem gX0_plateFor_X0_packedWidth : GoodIn wsX0_plateFor (wsV RX0 97 RX0 yX0_packedWidth wsX0_packedWidth) := goodIn_app (goodIn_of _ (by decide +kernel)) ggX0_plateFor_X0_packedWidth
theorem dX0_plateFor_0 : decode cX0_plateFor 0 = .ok (.aload_n 0, 1) := by decide +kernel
theorem dX0_plateFor_1 : decode cX0_plateFor 1 = .ok (.iload_n 1, 1) := by decide +kernel
theorem dX0_plateFor_2 : decode cX0_plateFor 2 = .ok (.invokevirtual 97, 3) := by decide +kernel
theorem dX0_plateFor_5 : decode cX0_plateFor 5 = .ok (.istore_n 2, 1) := by decide +kernel
theorem dX0_plateFor_6 : decode cX0_plateFor 6 = .ok (.iload_n 2, 1) := by decide +kernel
theorem dX0_plateFor_7 : decode cX0_plateFor 7 = .ok (.bipush 10, 2) := by decide +kernel
theorem dX0_plateFor_9 : decode cX0_plateFor 9 = .ok (.if_icmp .gt 5, 3) := by decide +kernel
theorem dX0_plateFor_12 : decode cX0_plateFor 12 = .ok (.iconst 4, 1) := by decide +kernel
theorem dX0_plateFor_13 : decode cX0_plateFor 13 = .ok (.ireturn, 1) := by decide +kernel
theorem dX0_plateFor_14 : decode cX0_plateFor 14 = .ok (.iload_n 2, 1) := by decide +kernel
theorem dX0_plateFor_15 : decode cX0_plateFor 15 = .ok (.bipush 20, 2) := by decide +kernel
theorem dX0_plateFor_17 : decode cX0_plateFor 17 = .ok (.if_icmp .gt 6, 3) := by decide +kernel
theorem dX0_plateFor_20 : decode cX0_plateFor 20 = .ok (.bipush 7, 2) := by decide +kernel
theorem dX0_plateFor_22 : decode cX0_plateFor 22 = .ok (.ireturn, 1) := by decide +kernel
theorem dX0_plateFor_23 : decode cX0_plateFor 23 = .ok (.iload_n 2, 1) := by decide +kernel
theorem dX0_plateFor_24 : decode cX0_plateFor 24 = .ok (.bipush 30, 2) := by decide +kernel
theorem dX0_plateFor_26 : decode cX0_plateFor 26 = .ok (.if_icmp .gt 8, 3) := by decide +kernel
theorem dX0_plateFor_29 : decode cX0_plateFor 29 = .ok (.bipush 10, 2) := by decide +kernel
theorem dX0_plateFor_31 : decode cX0_plateFor 31 = .ok (.goto 4, 3) := by decide +kernel
theorem dX0_plateFor_34 : decode cX0_plateFor 34 = .ok (.iconst (-1), 1) := by decide +kernel
theorem dX0_plateFor_35 : decode cX0_plateFor 35 = .ok (.ireturn, 1) := by decide +kernel
theorem dX0_wayOf_0 : decode cX0_wayOf 0 = .ok (.iload_n 0, 1) := by decide +kernel
theorem dX0_wayOf_1 : decode cX0_wayOf 1 = .ok (.iconst 4, 1) := by decide +kernel
theorem dX0_wayOf_2 : decode cX0_wayOf 2 = .ok (.imul, 1) := by decide +kernel
theorem dX0_wayOf_3 : decode cX0_wayOf 3 = .ok (.iload_n 1, 1) := by decide +kernel
theorem dX0_wayOf_4 : decode cX0_wayOf 4 = .ok (.iadd, 1) := by decide +kernel
theorem dX0_wayOf_5 : decode cX0_wayOf 5 = .ok (.ireturn, 1) := by decide +kernel
set_option maxRecDepth 20000 in
theorem ggX0_engrave_X0_manyOf : GoodIn wsX0_engrave wsX0_manyOf := goodIn_r _ [8] (by decide +kernel) (by decide +kernel)
set_option maxRecDepth 20000 in
theorem gX0_engrave_X0_manyOf : GoodIn wsX0_engrave (va_wsS RX0 175 yX0_manyOf wsX0_manyOf) := goodIn_app (goodIn_of _ (by decide +kernel)) ggX0_engrave_X0_manyOf
set_option maxRecDepth 20000 in
theorem ggX0_engrave_X0_glyphAt : GoodIn wsX0_engrave wsX0_glyphAt := goodIn_r _ [11] (by decide +kernel) (by decide +kernel)
set_option maxRecDepth 20000 in
theorem gX0_engrave_X0_glyphAt : GoodIn wsX0_engrave (va_wsS RX0 178 yX0_glyphAt wsX0_glyphAt) := goodIn_app (goodIn_of _ (by decide +kernel)) ggX0_engrave_X0_glyphAt
theorem dX0_engrave_0 : decode cX0_engrave 0 = .ok (.aload_n 0, 1) := by decide +kernel
theorem dX0_engrave_1 : decode cX0_engrave 1 = .ok (.getfield 22, 3) := by decide +kernel
theorem dX0_engrave_4 : decode cX0_engrave 4 = .ok (.iload_n 1, 1) := by decide +kernel
theorem dX0_engrave_5 : decode cX0_engrave 5 = .ok (.iaload, 1) := by decide +kernel
theorem dX0_engrave_6 : decode cX0_engrave 6 = .ok (.istore_n 3, 1) := by decide +kernel
theorem dX0_engrave_7 : decode cX0_engrave 7 = .ok (.iconst 0, 1) := by decide +kernel
theorem dX0_engrave_8 : decode cX0_engrave 8 = .ok (.istore 4, 2) := by decide +kernel
theorem dX0_engrave_10 : decode cX0_engrave 10 = .ok (.iload 4, 2) := by decide +kernel
theorem dX0_engrave_12 : decode cX0_engrave 12 = .ok (.iload_n 3, 1) := by decide +kernel
theorem dX0_engrave_13 : decode cX0_engrave 13 = .ok (.invokestatic 175, 3) := by decide +kernel
theorem dX0_engrave_16 : decode cX0_engrave 16 = .ok (.if_icmp .ge 31, 3) := by decide +kernel
theorem dX0_engrave_19 : decode cX0_engrave 19 = .ok (.aload_n 0, 1) := by decide +kernel
theorem dX0_engrave_20 : decode cX0_engrave 20 = .ok (.getfield 28, 3) := by decide +kernel
theorem dX0_engrave_23 : decode cX0_engrave 23 = .ok (.iload_n 1, 1) := by decide +kernel
theorem dX0_engrave_24 : decode cX0_engrave 24 = .ok (.iconst 5, 1) := by decide +kernel
theorem dX0_engrave_25 : decode cX0_engrave 25 = .ok (.imul, 1) := by decide +kernel
theorem dX0_engrave_26 : decode cX0_engrave 26 = .ok (.iload 4, 2) := by decide +kernel
theorem dX0_engrave_28 : decode cX0_engrave 28 = .ok (.iadd, 1) := by decide +kernel
theorem dX0_engrave_29 : decode cX0_engrave 29 = .ok (.aload_n 0, 1) := by decide +kernel
theorem dX0_engrave_30 : decode cX0_engrave 30 = .ok (.getfield 9, 3) := by decide +kernel
theorem dX0_engrave_33 : decode cX0_engrave 33 = .ok (.iload_n 3, 1) := by decide +kernel
theorem dX0_engrave_34 : decode cX0_engrave 34 = .ok (.iload 4, 2) := by decide +kernel
theorem dX0_engrave_36 : decode cX0_engrave 36 = .ok (.invokestatic 178, 3) := by decide +kernel
theorem dX0_engrave_39 : decode cX0_engrave 39 = .ok (.iaload, 1) := by decide +kernel
theorem dX0_engrave_40 : decode cX0_engrave 40 = .ok (.iastore, 1) := by decide +kernel
theorem dX0_engrave_41 : decode cX0_engrave 41 = .ok (.iinc 4 1, 3) := by decide +kernel
theorem dX0_engrave_44 : decode cX0_engrave 44 = .ok (.goto (-34), 3) := by decide +kernel
theorem dX0_engrave_47 : decode cX0_engrave 47 = .ok (.aload_n 0, 1) := by decide +kernel
theorem dX0_engrave_48 : decode cX0_engrave 48 = .ok (.dup, 1) := by decide +kernel
theorem dX0_engrave_49 : decode cX0_engrave 49 = .ok (.getfield 31, 3) := by decide +kernel
theorem dX0_engrave_52 : decode cX0_engrave 52 = .ok (.iload_n 2, 1) := by decide +kernel
theorem dX0_engrave_53 : decode cX0_engrave 53 = .ok (.i2l, 1) := by decide +kernel
theorem dX0_engrave_54 : decode cX0_engrave 54 = .ok (.ladd, 1) := by decide +kernel
theorem dX0_engrave_55 : decode cX0_engrave 55 = .ok (.putfield 31, 3) := by decide +kernel
theorem dX0_engrave_58 : decode cX0_engrave 58 = .ok (.return_, 1) := by decide +kernel
set_option maxRecDepth 20000 in
theorem ggX0_isOutdated_X0_manyOf : GoodIn wsX0_isOutdated wsX0_manyOf := goodIn_r _ [7] (by decide +kernel) (by decide +kernel)
set_option maxRecDepth 20000 in
theorem gX0_isOutdated_X0_manyOf : GoodIn wsX0_isOutdated (va_wsS RX0 175 yX0_manyOf wsX0_manyOf) := goodIn_app (goodIn_of _ (by decide +kernel)) ggX0_isOutdated_X0_manyOf
set_option maxRecDepth 20000 in
theorem ggX0_isOutdated_X0_glyphAt : GoodIn wsX0_isOutdated wsX0_glyphAt := goodIn_r _ [10] (by decide +kernel) (by decide +kernel)
set_option maxRecDepth 20000 in
theorem gX0_isOutdated_X0_glyphAt : GoodIn wsX0_isOutdated (va_wsS RX0 178 yX0_glyphAt wsX0_glyphAt) := goodIn_app (goodIn_of _ (by decide +kernel)) ggX0_isOutdated_X0_glyphAt
theorem dX0_isOutdated_0 : decode cX0_isOutdated 0 = .ok (.aload_n 0, 1) := by decide +kernel
theorem dX0_isOutdated_1 : decode cX0_isOutdated 1 = .ok (.getfield 22, 3) := by decide +kernel
theorem dX0_isOutdated_4 : decode cX0_isOutdated 4 = .ok (.iload_n 1, 1) := by decide +kernel
theorem dX0_isOutdated_5 : decode cX0_isOutdated 5 = .ok (.iaload, 1) := by decide +kernel
theorem dX0_isOutdated_6 : decode cX0_isOutdated 6 = .ok (.istore_n 2, 1) := by decide +kernel
theorem dX0_isOutdated_7 : decode cX0_isOutdated 7 = .ok (.iconst 0, 1) := by decide +kernel
theorem dX0_isOutdated_8 : decode cX0_isOutdated 8 = .ok (.istore_n 3, 1) := by decide +kernel
theorem dX0_isOutdated_9 : decode cX0_isOutdated 9 = .ok (.iload_n 3, 1) := by decide +kernel
theorem dX0_isOutdated_10 : decode cX0_isOutdated 10 = .ok (.iload_n 2, 1) := by decide +kernel
theorem dX0_isOutdated_11 : decode cX0_isOutdated 11 = .ok (.invokestatic 175, 3) := by decide +kernel
theorem dX0_isOutdated_14 : decode cX0_isOutdated 14 = .ok (.if_icmp .ge 34, 3) := by decide +kernel
theorem dX0_isOutdated_17 : decode cX0_isOutdated 17 = .ok (.aload_n 0, 1) := by decide +kernel
theorem dX0_isOutdated_18 : decode cX0_isOutdated 18 = .ok (.getfield 28, 3) := by decide +kernel
theorem dX0_isOutdated_21 : decode cX0_isOutdated 21 = .ok (.iload_n 1, 1) := by decide +kernel
theorem dX0_isOutdated_22 : decode cX0_isOutdated 22 = .ok (.iconst 5, 1) := by decide +kernel
theorem dX0_isOutdated_23 : decode cX0_isOutdated 23 = .ok (.imul, 1) := by decide +kernel
theorem dX0_isOutdated_24 : decode cX0_isOutdated 24 = .ok (.iload_n 3, 1) := by decide +kernel
theorem dX0_isOutdated_25 : decode cX0_isOutdated 25 = .ok (.iadd, 1) := by decide +kernel
theorem dX0_isOutdated_26 : decode cX0_isOutdated 26 = .ok (.iaload, 1) := by decide +kernel
theorem dX0_isOutdated_27 : decode cX0_isOutdated 27 = .ok (.aload_n 0, 1) := by decide +kernel
theorem dX0_isOutdated_28 : decode cX0_isOutdated 28 = .ok (.getfield 9, 3) := by decide +kernel
theorem dX0_isOutdated_31 : decode cX0_isOutdated 31 = .ok (.iload_n 2, 1) := by decide +kernel
theorem dX0_isOutdated_32 : decode cX0_isOutdated 32 = .ok (.iload_n 3, 1) := by decide +kernel
theorem dX0_isOutdated_33 : decode cX0_isOutdated 33 = .ok (.invokestatic 178, 3) := by decide +kernel
theorem dX0_isOutdated_36 : decode cX0_isOutdated 36 = .ok (.iaload, 1) := by decide +kernel
theorem dX0_isOutdated_37 : decode cX0_isOutdated 37 = .ok (.if_icmp .eq 5, 3) := by decide +kernel
theorem dX0_isOutdated_40 : decode cX0_isOutdated 40 = .ok (.iconst 1, 1) := by decide +kernel
theorem dX0_isOutdated_41 : decode cX0_isOutdated 41 = .ok (.ireturn, 1) := by decide +kernel
theorem dX0_isOutdated_42 : decode cX0_isOutdated 42 = .ok (.iinc 3 1, 3) := by decide +kernel
theorem dX0_isOutdated_45 : decode cX0_isOutdated 45 = .ok (.goto (-36), 3) := by decide +kernel
theorem dX0_isOutdated_48 : decode cX0_isOutdated 48 = .ok (.iconst 0, 1) := by decide +kernel
theorem dX0_isOutdated_49 : decode cX0_isOutdated 49 = .ok (.ireturn, 1) := by decide +kernel
set_option maxRecDepth 20000 in
theorem ggX0_readText_X0_manyOf : GoodIn wsX0_readText wsX0_manyOf := goodIn_r _ [7] (by decide +kernel) (by decide +kernel)
set_option maxRecDepth 20000 in
theorem gX0_readText_X0_manyOf : GoodIn wsX0_readText (va_wsS RX0 175 yX0_manyOf wsX0_manyOf) := goodIn_app (goodIn_of _ (by decide +kernel)) ggX0_readText_X0_manyOf
set_option maxRecDepth 20000 in
theorem ggX0_readText_X0_readGlyph : GoodIn wsX0_readText wsX0_readGlyph := goodIn_r _ [11, 12, 13, 14, 15, 6, 16, 17, 18, 19, 20, 21, 22, 23, 24, 25, 26, 30, 31, 32, 33, 34, 35, 36, 37, 38, 39] (by decide +kernel) (by decide +kernel)
set_option maxRecDepth 20000 in
theorem gX0_readText_X0_readGlyph : GoodIn wsX0_readText (wsV RX0 181 RX0 yX0_readGlyph wsX0_readGlyph) := goodIn_app (goodIn_of _ (by decide +kernel)) ggX0_readText_X0_readGlyph
set_option maxRecDepth 20000 in
theorem ggX0_readText_X0_pack : GoodIn wsX0_readText wsX0_pack := goodIn_r _ [29] (by decide +kernel) (by decide +kernel)
set_option maxRecDepth 20000 in
theorem gX0_readText_X0_pack : GoodIn wsX0_readText (va_wsS RX0 94 yX0_pack wsX0_pack) := goodIn_app (goodIn_of _ (by decide +kernel)) ggX0_readText_X0_pack
theorem dX0_readText_0 : decode cX0_readText 0 = .ok (.aload_n 0, 1) := by decide +kernel
theorem dX0_readText_1 : decode cX0_readText 1 = .ok (.getfield 22, 3) := by decide +kernel
theorem dX0_readText_4 : decode cX0_readText 4 = .ok (.iload_n 1, 1) := by decide +kernel
theorem dX0_readText_5 : decode cX0_readText 5 = .ok (.iaload, 1) := by decide +kernel
theorem dX0_readText_6 : decode cX0_readText 6 = .ok (.invokestatic 175, 3) := by decide +kernel
theorem dX0_readText_9 : decode cX0_readText 9 = .ok (.istore_n 2, 1) := by decide +kernel
theorem dX0_readText_10 : decode cX0_readText 10 = .ok (.iconst 0, 1) := by decide +kernel
theorem dX0_readText_11 : decode cX0_readText 11 = .ok (.istore_n 3, 1) := by decide +kernel
theorem dX0_readText_12 : decode cX0_readText 12 = .ok (.iconst 0, 1) := by decide +kernel
theorem dX0_readText_13 : decode cX0_readText 13 = .ok (.istore 4, 2) := by decide +kernel
theorem dX0_readText_15 : decode cX0_readText 15 = .ok (.iload 4, 2) := by decide +kernel
theorem dX0_readText_17 : decode cX0_readText 17 = .ok (.iload_n 2, 1) := by decide +kernel
theorem dX0_readText_18 : decode cX0_readText 18 = .ok (.if_icmp .ge 42, 3) := by decide +kernel
theorem dX0_readText_21 : decode cX0_readText 21 = .ok (.aload_n 0, 1) := by decide +kernel
theorem dX0_readText_22 : decode cX0_readText 22 = .ok (.aload_n 0, 1) := by decide +kernel
theorem dX0_readText_23 : decode cX0_readText 23 = .ok (.getfield 28, 3) := by decide +kernel
theorem dX0_readText_26 : decode cX0_readText 26 = .ok (.iload_n 1, 1) := by decide +kernel
theorem dX0_readText_27 : decode cX0_readText 27 = .ok (.iconst 5, 1) := by decide +kernel
theorem dX0_readText_28 : decode cX0_readText 28 = .ok (.imul, 1) := by decide +kernel
theorem dX0_readText_29 : decode cX0_readText 29 = .ok (.iload 4, 2) := by decide +kernel
theorem dX0_readText_31 : decode cX0_readText 31 = .ok (.iadd, 1) := by decide +kernel
theorem dX0_readText_32 : decode cX0_readText 32 = .ok (.iaload, 1) := by decide +kernel
theorem dX0_readText_33 : decode cX0_readText 33 = .ok (.aload_n 0, 1) := by decide +kernel
theorem dX0_readText_34 : decode cX0_readText 34 = .ok (.getfield 25, 3) := by decide +kernel
theorem dX0_readText_37 : decode cX0_readText 37 = .ok (.iload_n 1, 1) := by decide +kernel
theorem dX0_readText_38 : decode cX0_readText 38 = .ok (.iaload, 1) := by decide +kernel
theorem dX0_readText_39 : decode cX0_readText 39 = .ok (.invokevirtual 181, 3) := by decide +kernel
theorem dX0_readText_42 : decode cX0_readText 42 = .ok (.istore 5, 2) := by decide +kernel
theorem dX0_readText_44 : decode cX0_readText 44 = .ok (.iload_n 3, 1) := by decide +kernel
theorem dX0_readText_45 : decode cX0_readText 45 = .ok (.iload 5, 2) := by decide +kernel
theorem dX0_readText_47 : decode cX0_readText 47 = .ok (.iconst 3, 1) := by decide +kernel
theorem dX0_readText_48 : decode cX0_readText 48 = .ok (.iload 4, 2) := by decide +kernel
theorem dX0_readText_50 : decode cX0_readText 50 = .ok (.imul, 1) := by decide +kernel
theorem dX0_readText_51 : decode cX0_readText 51 = .ok (.ishl, 1) := by decide +kernel
theorem dX0_readText_52 : decode cX0_readText 52 = .ok (.ior, 1) := by decide +kernel
theorem dX0_readText_53 : decode cX0_readText 53 = .ok (.istore_n 3, 1) := by decide +kernel
theorem dX0_readText_54 : decode cX0_readText 54 = .ok (.iinc 4 1, 3) := by decide +kernel
theorem dX0_readText_57 : decode cX0_readText 57 = .ok (.goto (-42), 3) := by decide +kernel
theorem dX0_readText_60 : decode cX0_readText 60 = .ok (.iload_n 3, 1) := by decide +kernel
theorem dX0_readText_61 : decode cX0_readText 61 = .ok (.iload_n 2, 1) := by decide +kernel
theorem dX0_readText_62 : decode cX0_readText 62 = .ok (.invokestatic 94, 3) := by decide +kernel
theorem dX0_readText_65 : decode cX0_readText 65 = .ok (.ireturn, 1) := by decide +kernel
set_option maxRecDepth 20000 in
theorem ggX0_readGlyph_X0_nearestGlyph : GoodIn wsX0_readGlyph wsX0_nearestGlyph := goodIn_r _ [6, 1, 7, 8, 5, 9, 10, 11, 12, 13, 14, 15, 16, 17, 18, 19, 20, 21, 22, 23, 24, 25, 26] (by decide +kernel) (by decide +kernel)
set_option maxRecDepth 20000 in
theorem gX0_readGlyph_X0_nearestGlyph : GoodIn wsX0_readGlyph (wsV RX0 184 RX0 yX0_nearestGlyph wsX0_nearestGlyph) := goodIn_app (goodIn_of _ (by decide +kernel)) ggX0_readGlyph_X0_nearestGlyph
set_option maxRecDepth 20000 in
theorem ggX0_readGlyph_X0_differing : GoodIn wsX0_readGlyph wsX0_differing := goodIn_r _ [9, 10, 11, 12, 13, 14, 15, 16] (by decide +kernel) (by decide +kernel)
set_option maxRecDepth 20000 in
theorem gX0_readGlyph_X0_differing : GoodIn wsX0_readGlyph (va_wsS RX0 63 yX0_differing wsX0_differing) := goodIn_app (goodIn_of _ (by decide +kernel)) ggX0_readGlyph_X0_differing
theorem dX0_readGlyph_0 : decode cX0_readGlyph 0 = .ok (.aload_n 0, 1) := by decide +kernel
theorem dX0_readGlyph_1 : decode cX0_readGlyph 1 = .ok (.iload_n 1, 1) := by decide +kernel
theorem dX0_readGlyph_2 : decode cX0_readGlyph 2 = .ok (.iconst (-1), 1) := by decide +kernel
theorem dX0_readGlyph_3 : decode cX0_readGlyph 3 = .ok (.invokevirtual 184, 3) := by decide +kernel
theorem dX0_readGlyph_6 : decode cX0_readGlyph 6 = .ok (.istore_n 3, 1) := by decide +kernel
theorem dX0_readGlyph_7 : decode cX0_readGlyph 7 = .ok (.aload_n 0, 1) := by decide +kernel
theorem dX0_readGlyph_8 : decode cX0_readGlyph 8 = .ok (.iload_n 1, 1) := by decide +kernel
theorem dX0_readGlyph_9 : decode cX0_readGlyph 9 = .ok (.iload_n 3, 1) := by decide +kernel
theorem dX0_readGlyph_10 : decode cX0_readGlyph 10 = .ok (.invokevirtual 184, 3) := by decide +kernel
theorem dX0_readGlyph_13 : decode cX0_readGlyph 13 = .ok (.istore 4, 2) := by decide +kernel
theorem dX0_readGlyph_15 : decode cX0_readGlyph 15 = .ok (.iload_n 1, 1) := by decide +kernel
theorem dX0_readGlyph_16 : decode cX0_readGlyph 16 = .ok (.aload_n 0, 1) := by decide +kernel
theorem dX0_readGlyph_17 : decode cX0_readGlyph 17 = .ok (.getfield 9, 3) := by decide +kernel
theorem dX0_readGlyph_20 : decode cX0_readGlyph 20 = .ok (.iload 4, 2) := by decide +kernel
theorem dX0_readGlyph_22 : decode cX0_readGlyph 22 = .ok (.iaload, 1) := by decide +kernel
theorem dX0_readGlyph_23 : decode cX0_readGlyph 23 = .ok (.invokestatic 63, 3) := by decide +kernel
theorem dX0_readGlyph_26 : decode cX0_readGlyph 26 = .ok (.iload_n 1, 1) := by decide +kernel
theorem dX0_readGlyph_27 : decode cX0_readGlyph 27 = .ok (.aload_n 0, 1) := by decide +kernel
theorem dX0_readGlyph_28 : decode cX0_readGlyph 28 = .ok (.getfield 9, 3) := by decide +kernel
theorem dX0_readGlyph_31 : decode cX0_readGlyph 31 = .ok (.iload_n 3, 1) := by decide +kernel
theorem dX0_readGlyph_32 : decode cX0_readGlyph 32 = .ok (.iaload, 1) := by decide +kernel
theorem dX0_readGlyph_33 : decode cX0_readGlyph 33 = .ok (.invokestatic 63, 3) := by decide +kernel
theorem dX0_readGlyph_36 : decode cX0_readGlyph 36 = .ok (.isub, 1) := by decide +kernel
theorem dX0_readGlyph_37 : decode cX0_readGlyph 37 = .ok (.istore 5, 2) := by decide +kernel
theorem dX0_readGlyph_39 : decode cX0_readGlyph 39 = .ok (.iload 5, 2) := by decide +kernel
theorem dX0_readGlyph_41 : decode cX0_readGlyph 41 = .ok (.iload_n 2, 1) := by decide +kernel
theorem dX0_readGlyph_42 : decode cX0_readGlyph 42 = .ok (.if_icmp .lt 7, 3) := by decide +kernel
theorem dX0_readGlyph_45 : decode cX0_readGlyph 45 = .ok (.iload_n 3, 1) := by decide +kernel
theorem dX0_readGlyph_46 : decode cX0_readGlyph 46 = .ok (.goto 5, 3) := by decide +kernel
theorem dX0_readGlyph_49 : decode cX0_readGlyph 49 = .ok (.iload 4, 2) := by decide +kernel
theorem dX0_readGlyph_51 : decode cX0_readGlyph 51 = .ok (.ireturn, 1) := by decide +kernel
set_option maxRecDepth 20000 in
theorem ggX0_nearestGlyph_X0_differing : GoodIn wsX0_nearestGlyph wsX0_differing := goodIn_r _ [5, 6, 7, 8, 9, 10, 11, 12] (by decide +kernel) (by decide +kernel)
set_option maxRecDepth 20000 in
theorem gX0_nearestGlyph_X0_differing : GoodIn wsX0_nearestGlyph (va_wsS RX0 63 yX0_differing wsX0_differing) := goodIn_app (goodIn_of _ (by decide +kernel)) ggX0_nearestGlyph_X0_differing
theorem dX0_nearestGlyph_0 : decode cX0_nearestGlyph 0 = .ok (.iload_n 2, 1) := by decide +kernel
theorem dX0_nearestGlyph_1 : decode cX0_nearestGlyph 1 = .ok (.ifCond .ne 7, 3) := by decide +kernel
theorem dX0_nearestGlyph_4 : decode cX0_nearestGlyph 4 = .ok (.iconst 1, 1) := by decide +kernel
theorem dX0_nearestGlyph_5 : decode cX0_nearestGlyph 5 = .ok (.goto 4, 3) := by decide +kernel
theorem dX0_nearestGlyph_8 : decode cX0_nearestGlyph 8 = .ok (.iconst 0, 1) := by decide +kernel
theorem dX0_nearestGlyph_9 : decode cX0_nearestGlyph 9 = .ok (.istore_n 3, 1) := by decide +kernel
theorem dX0_nearestGlyph_10 : decode cX0_nearestGlyph 10 = .ok (.iload_n 3, 1) := by decide +kernel
theorem dX0_nearestGlyph_11 : decode cX0_nearestGlyph 11 = .ok (.iconst 1, 1) := by decide +kernel
theorem dX0_nearestGlyph_12 : decode cX0_nearestGlyph 12 = .ok (.iadd, 1) := by decide +kernel
theorem dX0_nearestGlyph_13 : decode cX0_nearestGlyph 13 = .ok (.istore 4, 2) := by decide +kernel
theorem dX0_nearestGlyph_15 : decode cX0_nearestGlyph 15 = .ok (.iload 4, 2) := by decide +kernel
theorem dX0_nearestGlyph_17 : decode cX0_nearestGlyph 17 = .ok (.bipush 8, 2) := by decide +kernel
theorem dX0_nearestGlyph_19 : decode cX0_nearestGlyph 19 = .ok (.if_icmp .ge 42, 3) := by decide +kernel
theorem dX0_nearestGlyph_22 : decode cX0_nearestGlyph 22 = .ok (.iload 4, 2) := by decide +kernel
theorem dX0_nearestGlyph_24 : decode cX0_nearestGlyph 24 = .ok (.iload_n 2, 1) := by decide +kernel
theorem dX0_nearestGlyph_25 : decode cX0_nearestGlyph 25 = .ok (.if_icmp .eq 30, 3) := by decide +kernel
theorem dX0_nearestGlyph_28 : decode cX0_nearestGlyph 28 = .ok (.iload_n 1, 1) := by decide +kernel
theorem dX0_nearestGlyph_29 : decode cX0_nearestGlyph 29 = .ok (.aload_n 0, 1) := by decide +kernel
theorem dX0_nearestGlyph_30 : decode cX0_nearestGlyph 30 = .ok (.getfield 9, 3) := by decide +kernel
theorem dX0_nearestGlyph_33 : decode cX0_nearestGlyph 33 = .ok (.iload 4, 2) := by decide +kernel
theorem dX0_nearestGlyph_35 : decode cX0_nearestGlyph 35 = .ok (.iaload, 1) := by decide +kernel
theorem dX0_nearestGlyph_36 : decode cX0_nearestGlyph 36 = .ok (.invokestatic 63, 3) := by decide +kernel
theorem dX0_nearestGlyph_39 : decode cX0_nearestGlyph 39 = .ok (.iload_n 1, 1) := by decide +kernel
theorem dX0_nearestGlyph_40 : decode cX0_nearestGlyph 40 = .ok (.aload_n 0, 1) := by decide +kernel
theorem dX0_nearestGlyph_41 : decode cX0_nearestGlyph 41 = .ok (.getfield 9, 3) := by decide +kernel
theorem dX0_nearestGlyph_44 : decode cX0_nearestGlyph 44 = .ok (.iload_n 3, 1) := by decide +kernel
theorem dX0_nearestGlyph_45 : decode cX0_nearestGlyph 45 = .ok (.iaload, 1) := by decide +kernel
theorem dX0_nearestGlyph_46 : decode cX0_nearestGlyph 46 = .ok (.invokestatic 63, 3) := by decide +kernel
theorem dX0_nearestGlyph_49 : decode cX0_nearestGlyph 49 = .ok (.if_icmp .ge 6, 3) := by decide +kernel
theorem dX0_nearestGlyph_52 : decode cX0_nearestGlyph 52 = .ok (.iload 4, 2) := by decide +kernel
theorem dX0_nearestGlyph_54 : decode cX0_nearestGlyph 54 = .ok (.istore_n 3, 1) := by decide +kernel
theorem dX0_nearestGlyph_55 : decode cX0_nearestGlyph 55 = .ok (.iinc 4 1, 3) := by decide +kernel
theorem dX0_nearestGlyph_58 : decode cX0_nearestGlyph 58 = .ok (.goto (-43), 3) := by decide +kernel
theorem dX0_nearestGlyph_61 : decode cX0_nearestGlyph 61 = .ok (.iload_n 3, 1) := by decide +kernel
theorem dX0_nearestGlyph_62 : decode cX0_nearestGlyph 62 = .ok (.ireturn, 1) := by decide +kernel
theorem dX0_forgetWalks_0 : decode cX0_forgetWalks 0 = .ok (.aload_n 0, 1) := by decide +kernel
theorem dX0_forgetWalks_1 : decode cX0_forgetWalks 1 = .ok (.iconst 0, 1) := by decide +kernel
theorem dX0_forgetWalks_2 : decode cX0_forgetWalks 2 = .ok (.putfield 35, 3) := by decide +kernel
theorem dX0_forgetWalks_5 : decode cX0_forgetWalks 5 = .ok (.return_, 1) := by decide +kernel
set_option maxRecDepth 20000 in
theorem ggX0_stepsToArrive_X0_nextWay : GoodIn wsX0_stepsToArrive wsX0_nextWay := goodIn_r _ [7, 2, 8, 9, 6, 10, 11, 12, 13, 14, 15, 16, 17, 18, 19, 20, 21, 22, 23, 24, 25, 26, 27, 28, 29, 30, 31, 32, 33, 34, 35, 36, 37, 38, 39, 40, 41, 42, 43, 44, 45, 46, 47, 48, 49, 50, 51, 52] (by decide +kernel) (by decide +kernel)
set_option maxRecDepth 20000 in
theorem gX0_stepsToArrive_X0_nextWay : GoodIn wsX0_stepsToArrive (wsV RX0 187 RX0 yX0_nextWay wsX0_nextWay) := goodIn_app (goodIn_of _ (by decide +kernel)) ggX0_stepsToArrive_X0_nextWay
theorem dX0_stepsToArrive_0 : decode cX0_stepsToArrive 0 = .ok (.iload_n 1, 1) := by decide +kernel
theorem dX0_stepsToArrive_1 : decode cX0_stepsToArrive 1 = .ok (.istore_n 3, 1) := by decide +kernel
theorem dX0_stepsToArrive_2 : decode cX0_stepsToArrive 2 = .ok (.iconst 0, 1) := by decide +kernel
theorem dX0_stepsToArrive_3 : decode cX0_stepsToArrive 3 = .ok (.istore 4, 2) := by decide +kernel
theorem dX0_stepsToArrive_5 : decode cX0_stepsToArrive 5 = .ok (.iconst 0, 1) := by decide +kernel
theorem dX0_stepsToArrive_6 : decode cX0_stepsToArrive 6 = .ok (.istore 5, 2) := by decide +kernel
theorem dX0_stepsToArrive_8 : decode cX0_stepsToArrive 8 = .ok (.iload 5, 2) := by decide +kernel
theorem dX0_stepsToArrive_10 : decode cX0_stepsToArrive 10 = .ok (.bipush 30, 2) := by decide +kernel
theorem dX0_stepsToArrive_12 : decode cX0_stepsToArrive 12 = .ok (.if_icmp .gt 57, 3) := by decide +kernel
theorem dX0_stepsToArrive_15 : decode cX0_stepsToArrive 15 = .ok (.aload_n 0, 1) := by decide +kernel
theorem dX0_stepsToArrive_16 : decode cX0_stepsToArrive 16 = .ok (.getfield 19, 3) := by decide +kernel
theorem dX0_stepsToArrive_19 : decode cX0_stepsToArrive 19 = .ok (.iload_n 3, 1) := by decide +kernel
theorem dX0_stepsToArrive_20 : decode cX0_stepsToArrive 20 = .ok (.iaload, 1) := by decide +kernel
theorem dX0_stepsToArrive_21 : decode cX0_stepsToArrive 21 = .ok (.iload_n 2, 1) := by decide +kernel
theorem dX0_stepsToArrive_22 : decode cX0_stepsToArrive 22 = .ok (.if_icmp .ne 6, 3) := by decide +kernel
theorem dX0_stepsToArrive_25 : decode cX0_stepsToArrive 25 = .ok (.iload 5, 2) := by decide +kernel
theorem dX0_stepsToArrive_27 : decode cX0_stepsToArrive 27 = .ok (.ireturn, 1) := by decide +kernel
theorem dX0_stepsToArrive_28 : decode cX0_stepsToArrive 28 = .ok (.aload_n 0, 1) := by decide +kernel
theorem dX0_stepsToArrive_29 : decode cX0_stepsToArrive 29 = .ok (.iload_n 3, 1) := by decide +kernel
theorem dX0_stepsToArrive_30 : decode cX0_stepsToArrive 30 = .ok (.iload_n 2, 1) := by decide +kernel
theorem dX0_stepsToArrive_31 : decode cX0_stepsToArrive 31 = .ok (.iload 4, 2) := by decide +kernel
theorem dX0_stepsToArrive_33 : decode cX0_stepsToArrive 33 = .ok (.invokevirtual 187, 3) := by decide +kernel
theorem dX0_stepsToArrive_36 : decode cX0_stepsToArrive 36 = .ok (.istore 6, 2) := by decide +kernel
theorem dX0_stepsToArrive_38 : decode cX0_stepsToArrive 38 = .ok (.iload 6, 2) := by decide +kernel
theorem dX0_stepsToArrive_40 : decode cX0_stepsToArrive 40 = .ok (.iconst (-1), 1) := by decide +kernel
theorem dX0_stepsToArrive_41 : decode cX0_stepsToArrive 41 = .ok (.if_icmp .ne 5, 3) := by decide +kernel
theorem dX0_stepsToArrive_44 : decode cX0_stepsToArrive 44 = .ok (.iconst (-1), 1) := by decide +kernel
theorem dX0_stepsToArrive_45 : decode cX0_stepsToArrive 45 = .ok (.ireturn, 1) := by decide +kernel
theorem dX0_stepsToArrive_46 : decode cX0_stepsToArrive 46 = .ok (.iload 4, 2) := by decide +kernel
theorem dX0_stepsToArrive_48 : decode cX0_stepsToArrive 48 = .ok (.iconst 1, 1) := by decide +kernel
theorem dX0_stepsToArrive_49 : decode cX0_stepsToArrive 49 = .ok (.iload 6, 2) := by decide +kernel
theorem dX0_stepsToArrive_51 : decode cX0_stepsToArrive 51 = .ok (.ishl, 1) := by decide +kernel
theorem dX0_stepsToArrive_52 : decode cX0_stepsToArrive 52 = .ok (.ior, 1) := by decide +kernel
theorem dX0_stepsToArrive_53 : decode cX0_stepsToArrive 53 = .ok (.istore 4, 2) := by decide +kernel
theorem dX0_stepsToArrive_55 : decode cX0_stepsToArrive 55 = .ok (.aload_n 0, 1) := by decide +kernel
theorem dX0_stepsToArrive_56 : decode cX0_stepsToArrive 56 = .ok (.getfield 16, 3) := by decide +kernel
theorem dX0_stepsToArrive_59 : decode cX0_stepsToArrive 59 = .ok (.iload 6, 2) := by decide +kernel
theorem dX0_stepsToArrive_61 : decode cX0_stepsToArrive 61 = .ok (.iaload, 1) := by decide +kernel
theorem dX0_stepsToArrive_62 : decode cX0_stepsToArrive 62 = .ok (.istore_n 3, 1) := by decide +kernel
theorem dX0_stepsToArrive_63 : decode cX0_stepsToArrive 63 = .ok (.iinc 5 1, 3) := by decide +kernel
theorem dX0_stepsToArrive_66 : decode cX0_stepsToArrive 66 = .ok (.goto (-58), 3) := by decide +kernel
theorem dX0_stepsToArrive_69 : decode cX0_stepsToArrive 69 = .ok (.iconst (-1), 1) := by decide +kernel
theorem dX0_stepsToArrive_70 : decode cX0_stepsToArrive 70 = .ok (.ireturn, 1) := by decide +kernel
set_option maxRecDepth 20000 in
theorem ggX0_placeReached_X0_nextWay : GoodIn wsX0_placeReached wsX0_nextWay := goodIn_r _ [7, 2, 8, 9, 6, 10, 11, 12, 13, 14, 15, 16, 17, 18, 19, 20, 21, 22, 23, 24, 25, 26, 27, 28, 29, 30, 31, 32, 33, 34, 35, 36, 37, 38, 39, 40, 41, 42, 43, 44, 45, 46, 47, 48, 49, 50, 51, 52] (by decide +kernel) (by decide +kernel)
set_option maxRecDepth 20000 in
theorem gX0_placeReached_X0_nextWay : GoodIn wsX0_placeReached (wsV RX0 187 RX0 yX0_nextWay wsX0_nextWay) := goodIn_app (goodIn_of _ (by decide +kernel)) ggX0_placeReached_X0_nextWay
theorem dX0_placeReached_0 : decode cX0_placeReached 0 = .ok (.iload_n 1, 1) := by decide +kernel
theorem dX0_placeReached_1 : decode cX0_placeReached 1 = .ok (.istore 4, 2) := by decide +kernel
theorem dX0_placeReached_3 : decode cX0_placeReached 3 = .ok (.iconst 0, 1) := by decide +kernel
theorem dX0_placeReached_4 : decode cX0_placeReached 4 = .ok (.istore 5, 2) := by decide +kernel
theorem dX0_placeReached_6 : decode cX0_placeReached 6 = .ok (.iconst 0, 1) := by decide +kernel
theorem dX0_placeReached_7 : decode cX0_placeReached 7 = .ok (.istore 6, 2) := by decide +kernel
theorem dX0_placeReached_9 : decode cX0_placeReached 9 = .ok (.iload 6, 2) := by decide +kernel
theorem dX0_placeReached_11 : decode cX0_placeReached 11 = .ok (.iload_n 3, 1) := by decide +kernel
theorem dX0_placeReached_12 : decode cX0_placeReached 12 = .ok (.if_icmp .ge 58, 3) := by decide +kernel
theorem dX0_placeReached_15 : decode cX0_placeReached 15 = .ok (.aload_n 0, 1) := by decide +kernel
theorem dX0_placeReached_16 : decode cX0_placeReached 16 = .ok (.getfield 19, 3) := by decide +kernel
theorem dX0_placeReached_19 : decode cX0_placeReached 19 = .ok (.iload 4, 2) := by decide +kernel
theorem dX0_placeReached_21 : decode cX0_placeReached 21 = .ok (.iaload, 1) := by decide +kernel
theorem dX0_placeReached_22 : decode cX0_placeReached 22 = .ok (.iload_n 2, 1) := by decide +kernel
theorem dX0_placeReached_23 : decode cX0_placeReached 23 = .ok (.if_icmp .eq 47, 3) := by decide +kernel
theorem dX0_placeReached_26 : decode cX0_placeReached 26 = .ok (.aload_n 0, 1) := by decide +kernel
theorem dX0_placeReached_27 : decode cX0_placeReached 27 = .ok (.iload 4, 2) := by decide +kernel
theorem dX0_placeReached_29 : decode cX0_placeReached 29 = .ok (.iload_n 2, 1) := by decide +kernel
theorem dX0_placeReached_30 : decode cX0_placeReached 30 = .ok (.iload 5, 2) := by decide +kernel
theorem dX0_placeReached_32 : decode cX0_placeReached 32 = .ok (.invokevirtual 187, 3) := by decide +kernel
theorem dX0_placeReached_35 : decode cX0_placeReached 35 = .ok (.istore 7, 2) := by decide +kernel
theorem dX0_placeReached_37 : decode cX0_placeReached 37 = .ok (.iload 7, 2) := by decide +kernel
theorem dX0_placeReached_39 : decode cX0_placeReached 39 = .ok (.iconst (-1), 1) := by decide +kernel
theorem dX0_placeReached_40 : decode cX0_placeReached 40 = .ok (.if_icmp .ne 6, 3) := by decide +kernel
theorem dX0_placeReached_43 : decode cX0_placeReached 43 = .ok (.iload 4, 2) := by decide +kernel
theorem dX0_placeReached_45 : decode cX0_placeReached 45 = .ok (.ireturn, 1) := by decide +kernel
theorem dX0_placeReached_46 : decode cX0_placeReached 46 = .ok (.iload 5, 2) := by decide +kernel
theorem dX0_placeReached_48 : decode cX0_placeReached 48 = .ok (.iconst 1, 1) := by decide +kernel
theorem dX0_placeReached_49 : decode cX0_placeReached 49 = .ok (.iload 7, 2) := by decide +kernel
theorem dX0_placeReached_51 : decode cX0_placeReached 51 = .ok (.ishl, 1) := by decide +kernel
theorem dX0_placeReached_52 : decode cX0_placeReached 52 = .ok (.ior, 1) := by decide +kernel
theorem dX0_placeReached_53 : decode cX0_placeReached 53 = .ok (.istore 5, 2) := by decide +kernel
theorem dX0_placeReached_55 : decode cX0_placeReached 55 = .ok (.aload_n 0, 1) := by decide +kernel
theorem dX0_placeReached_56 : decode cX0_placeReached 56 = .ok (.getfield 16, 3) := by decide +kernel
theorem dX0_placeReached_59 : decode cX0_placeReached 59 = .ok (.iload 7, 2) := by decide +kernel
theorem dX0_placeReached_61 : decode cX0_placeReached 61 = .ok (.iaload, 1) := by decide +kernel
theorem dX0_placeReached_62 : decode cX0_placeReached 62 = .ok (.istore 4, 2) := by decide +kernel
theorem dX0_placeReached_64 : decode cX0_placeReached 64 = .ok (.iinc 6 1, 3) := by decide +kernel
theorem dX0_placeReached_67 : decode cX0_placeReached 67 = .ok (.goto (-58), 3) := by decide +kernel
theorem dX0_placeReached_70 : decode cX0_placeReached 70 = .ok (.iload 4, 2) := by decide +kernel
theorem dX0_placeReached_72 : decode cX0_placeReached 72 = .ok (.ireturn, 1) := by decide +kernel
set_option maxRecDepth 20000 in
theorem ggX0_nextWay_X0_wayOf : GoodIn wsX0_nextWay wsX0_wayOf := goodIn_r _ [5] (by decide +kernel) (by decide +kernel)
set_option maxRecDepth 20000 in
theorem gX0_nextWay_X0_wayOf : GoodIn wsX0_nextWay (va_wsS RX0 88 yX0_wayOf wsX0_wayOf) := goodIn_app (goodIn_of _ (by decide +kernel)) ggX0_nextWay_X0_wayOf
set_option maxRecDepth 20000 in
theorem ggX0_nextWay_X0_readText : GoodIn wsX0_nextWay wsX0_readText := goodIn_r _ [9, 10, 11, 12, 13, 14, 4, 15, 16, 17, 18, 19, 20, 21, 22, 23, 24, 25, 26, 27, 28, 29, 30, 31, 32, 33, 34, 35, 36, 37, 38, 39, 40, 41, 42, 43, 44, 45, 46, 47] (by decide +kernel) (by decide +kernel)
set_option maxRecDepth 20000 in
theorem gX0_nextWay_X0_readText : GoodIn wsX0_nextWay (wsV RX0 120 RX0 yX0_readText wsX0_readText) := goodIn_app (goodIn_of _ (by decide +kernel)) ggX0_nextWay_X0_readText
theorem dX0_nextWay_0 : decode cX0_nextWay 0 = .ok (.iconst (-1), 1) := by decide +kernel
theorem dX0_nextWay_1 : decode cX0_nextWay 1 = .ok (.istore 4, 2) := by decide +kernel
theorem dX0_nextWay_3 : decode cX0_nextWay 3 = .ok (.iconst 0, 1) := by decide +kernel
theorem dX0_nextWay_4 : decode cX0_nextWay 4 = .ok (.istore 5, 2) := by decide +kernel
theorem dX0_nextWay_6 : decode cX0_nextWay 6 = .ok (.iload 5, 2) := by decide +kernel
theorem dX0_nextWay_8 : decode cX0_nextWay 8 = .ok (.iconst 4, 1) := by decide +kernel
theorem dX0_nextWay_9 : decode cX0_nextWay 9 = .ok (.if_icmp .ge 60, 3) := by decide +kernel
theorem dX0_nextWay_12 : decode cX0_nextWay 12 = .ok (.iload_n 1, 1) := by decide +kernel
theorem dX0_nextWay_13 : decode cX0_nextWay 13 = .ok (.iload 5, 2) := by decide +kernel
theorem dX0_nextWay_15 : decode cX0_nextWay 15 = .ok (.invokestatic 88, 3) := by decide +kernel
theorem dX0_nextWay_18 : decode cX0_nextWay 18 = .ok (.istore 6, 2) := by decide +kernel
theorem dX0_nextWay_20 : decode cX0_nextWay 20 = .ok (.aload_n 0, 1) := by decide +kernel
theorem dX0_nextWay_21 : decode cX0_nextWay 21 = .ok (.getfield 16, 3) := by decide +kernel
theorem dX0_nextWay_24 : decode cX0_nextWay 24 = .ok (.iload 6, 2) := by decide +kernel
theorem dX0_nextWay_26 : decode cX0_nextWay 26 = .ok (.iaload, 1) := by decide +kernel
theorem dX0_nextWay_27 : decode cX0_nextWay 27 = .ok (.iconst (-1), 1) := by decide +kernel
theorem dX0_nextWay_28 : decode cX0_nextWay 28 = .ok (.if_icmp .eq 35, 3) := by decide +kernel
theorem dX0_nextWay_31 : decode cX0_nextWay 31 = .ok (.aload_n 0, 1) := by decide +kernel
theorem dX0_nextWay_32 : decode cX0_nextWay 32 = .ok (.iload 6, 2) := by decide +kernel
theorem dX0_nextWay_34 : decode cX0_nextWay 34 = .ok (.invokevirtual 120, 3) := by decide +kernel
theorem dX0_nextWay_37 : decode cX0_nextWay 37 = .ok (.iload_n 2, 1) := by decide +kernel
theorem dX0_nextWay_38 : decode cX0_nextWay 38 = .ok (.if_icmp .ne 6, 3) := by decide +kernel
theorem dX0_nextWay_41 : decode cX0_nextWay 41 = .ok (.iload 6, 2) := by decide +kernel
theorem dX0_nextWay_43 : decode cX0_nextWay 43 = .ok (.ireturn, 1) := by decide +kernel
theorem dX0_nextWay_44 : decode cX0_nextWay 44 = .ok (.iload 4, 2) := by decide +kernel
theorem dX0_nextWay_46 : decode cX0_nextWay 46 = .ok (.iconst (-1), 1) := by decide +kernel
theorem dX0_nextWay_47 : decode cX0_nextWay 47 = .ok (.if_icmp .ne 16, 3) := by decide +kernel
theorem dX0_nextWay_50 : decode cX0_nextWay 50 = .ok (.iload_n 3, 1) := by decide +kernel
theorem dX0_nextWay_51 : decode cX0_nextWay 51 = .ok (.iconst 1, 1) := by decide +kernel
theorem dX0_nextWay_52 : decode cX0_nextWay 52 = .ok (.iload 6, 2) := by decide +kernel
theorem dX0_nextWay_54 : decode cX0_nextWay 54 = .ok (.ishl, 1) := by decide +kernel
theorem dX0_nextWay_55 : decode cX0_nextWay 55 = .ok (.iand, 1) := by decide +kernel
theorem dX0_nextWay_56 : decode cX0_nextWay 56 = .ok (.ifCond .ne 7, 3) := by decide +kernel
theorem dX0_nextWay_59 : decode cX0_nextWay 59 = .ok (.iload 6, 2) := by decide +kernel
theorem dX0_nextWay_61 : decode cX0_nextWay 61 = .ok (.istore 4, 2) := by decide +kernel
theorem dX0_nextWay_63 : decode cX0_nextWay 63 = .ok (.iinc 5 1, 3) := by decide +kernel
theorem dX0_nextWay_66 : decode cX0_nextWay 66 = .ok (.goto (-60), 3) := by decide +kernel
theorem dX0_nextWay_69 : decode cX0_nextWay 69 = .ok (.iload 4, 2) := by decide +kernel
theorem dX0_nextWay_71 : decode cX0_nextWay 71 = .ok (.ireturn, 1) := by decide +kernel
end
section
theorem dJ6_bitCount_0f7a4_0 : decode cJ6_bitCount_0f7a4 0 = .ok (.iload_n 0, 1) := by decide +kernel
theorem dJ6_bitCount_0f7a4_1 : decode cJ6_bitCount_0f7a4 1 = .ok (.iload_n 0, 1) := by decide +kernel
theorem dJ6_bitCount_0f7a4_2 : decode cJ6_bitCount_0f7a4 2 = .ok (.iconst 1, 1) := by decide +kernel
theorem dJ6_bitCount_0f7a4_3 : decode cJ6_bitCount_0f7a4 3 = .ok (.iushr, 1) := by decide +kernel
theorem dJ6_bitCount_0f7a4_4 : decode cJ6_bitCount_0f7a4 4 = .ok (.ldc_w 265, 3) := by decide +kernel
theorem dJ6_bitCount_0f7a4_7 : decode cJ6_bitCount_0f7a4 7 = .ok (.iand, 1) := by decide +kernel
theorem dJ6_bitCount_0f7a4_8 : decode cJ6_bitCount_0f7a4 8 = .ok (.isub, 1) := by decide +kernel
theorem dJ6_bitCount_0f7a4_9 : decode cJ6_bitCount_0f7a4 9 = .ok (.istore_n 0, 1) := by decide +kernel
theorem dJ6_bitCount_0f7a4_10 : decode cJ6_bitCount_0f7a4 10 = .ok (.iload_n 0, 1) := by decide +kernel
theorem dJ6_bitCount_0f7a4_11 : decode cJ6_bitCount_0f7a4 11 = .ok (.ldc_w 266, 3) := by decide +kernel
theorem dJ6_bitCount_0f7a4_14 : decode cJ6_bitCount_0f7a4 14 = .ok (.iand, 1) := by decide +kernel
theorem dJ6_bitCount_0f7a4_15 : decode cJ6_bitCount_0f7a4 15 = .ok (.iload_n 0, 1) := by decide +kernel
theorem dJ6_bitCount_0f7a4_16 : decode cJ6_bitCount_0f7a4 16 = .ok (.iconst 2, 1) := by decide +kernel
theorem dJ6_bitCount_0f7a4_17 : decode cJ6_bitCount_0f7a4 17 = .ok (.iushr, 1) := by decide +kernel
theorem dJ6_bitCount_0f7a4_18 : decode cJ6_bitCount_0f7a4 18 = .ok (.ldc_w 266, 3) := by decide +kernel
theorem dJ6_bitCount_0f7a4_21 : decode cJ6_bitCount_0f7a4 21 = .ok (.iand, 1) := by decide +kernel
theorem dJ6_bitCount_0f7a4_22 : decode cJ6_bitCount_0f7a4 22 = .ok (.iadd, 1) := by decide +kernel
theorem dJ6_bitCount_0f7a4_23 : decode cJ6_bitCount_0f7a4 23 = .ok (.istore_n 0, 1) := by decide +kernel
theorem dJ6_bitCount_0f7a4_24 : decode cJ6_bitCount_0f7a4 24 = .ok (.iload_n 0, 1) := by decide +kernel
theorem dJ6_bitCount_0f7a4_25 : decode cJ6_bitCount_0f7a4 25 = .ok (.iload_n 0, 1) := by decide +kernel
theorem dJ6_bitCount_0f7a4_26 : decode cJ6_bitCount_0f7a4 26 = .ok (.iconst 4, 1) := by decide +kernel
theorem dJ6_bitCount_0f7a4_27 : decode cJ6_bitCount_0f7a4 27 = .ok (.iushr, 1) := by decide +kernel
theorem dJ6_bitCount_0f7a4_28 : decode cJ6_bitCount_0f7a4 28 = .ok (.iadd, 1) := by decide +kernel
theorem dJ6_bitCount_0f7a4_29 : decode cJ6_bitCount_0f7a4 29 = .ok (.ldc_w 267, 3) := by decide +kernel
theorem dJ6_bitCount_0f7a4_32 : decode cJ6_bitCount_0f7a4 32 = .ok (.iand, 1) := by decide +kernel
theorem dJ6_bitCount_0f7a4_33 : decode cJ6_bitCount_0f7a4 33 = .ok (.istore_n 0, 1) := by decide +kernel
theorem dJ6_bitCount_0f7a4_34 : decode cJ6_bitCount_0f7a4 34 = .ok (.iload_n 0, 1) := by decide +kernel
theorem dJ6_bitCount_0f7a4_35 : decode cJ6_bitCount_0f7a4 35 = .ok (.iload_n 0, 1) := by decide +kernel
theorem dJ6_bitCount_0f7a4_36 : decode cJ6_bitCount_0f7a4 36 = .ok (.bipush 8, 2) := by decide +kernel
theorem dJ6_bitCount_0f7a4_38 : decode cJ6_bitCount_0f7a4 38 = .ok (.iushr, 1) := by decide +kernel
theorem dJ6_bitCount_0f7a4_39 : decode cJ6_bitCount_0f7a4 39 = .ok (.iadd, 1) := by decide +kernel
theorem dJ6_bitCount_0f7a4_40 : decode cJ6_bitCount_0f7a4 40 = .ok (.istore_n 0, 1) := by decide +kernel
theorem dJ6_bitCount_0f7a4_41 : decode cJ6_bitCount_0f7a4 41 = .ok (.iload_n 0, 1) := by decide +kernel
theorem dJ6_bitCount_0f7a4_42 : decode cJ6_bitCount_0f7a4 42 = .ok (.iload_n 0, 1) := by decide +kernel
theorem dJ6_bitCount_0f7a4_43 : decode cJ6_bitCount_0f7a4 43 = .ok (.bipush 16, 2) := by decide +kernel
theorem dJ6_bitCount_0f7a4_45 : decode cJ6_bitCount_0f7a4 45 = .ok (.iushr, 1) := by decide +kernel
theorem dJ6_bitCount_0f7a4_46 : decode cJ6_bitCount_0f7a4 46 = .ok (.iadd, 1) := by decide +kernel
theorem dJ6_bitCount_0f7a4_47 : decode cJ6_bitCount_0f7a4 47 = .ok (.istore_n 0, 1) := by decide +kernel
theorem dJ6_bitCount_0f7a4_48 : decode cJ6_bitCount_0f7a4 48 = .ok (.iload_n 0, 1) := by decide +kernel
theorem dJ6_bitCount_0f7a4_49 : decode cJ6_bitCount_0f7a4 49 = .ok (.bipush 63, 2) := by decide +kernel
theorem dJ6_bitCount_0f7a4_51 : decode cJ6_bitCount_0f7a4 51 = .ok (.iand, 1) := by decide +kernel
theorem dJ6_bitCount_0f7a4_52 : decode cJ6_bitCount_0f7a4 52 = .ok (.ireturn, 1) := by decide +kernel
theorem dJ9_abs_0f7a4_0 : decode cJ9_abs_0f7a4 0 = .ok (.iload_n 0, 1) := by decide +kernel
theorem dJ9_abs_0f7a4_1 : decode cJ9_abs_0f7a4 1 = .ok (.ifCond .ge 8, 3) := by decide +kernel
theorem dJ9_abs_0f7a4_4 : decode cJ9_abs_0f7a4 4 = .ok (.iload_n 0, 1) := by decide +kernel
theorem dJ9_abs_0f7a4_5 : decode cJ9_abs_0f7a4 5 = .ok (.ineg, 1) := by decide +kernel
theorem dJ9_abs_0f7a4_6 : decode cJ9_abs_0f7a4 6 = .ok (.goto 4, 3) := by decide +kernel
theorem dJ9_abs_0f7a4_9 : decode cJ9_abs_0f7a4 9 = .ok (.iload_n 0, 1) := by decide +kernel
theorem dJ9_abs_0f7a4_10 : decode cJ9_abs_0f7a4 10 = .ok (.ireturn, 1) := by decide +kernel
theorem dJ9_max_7cf53_0 : decode cJ9_max_7cf53 0 = .ok (.iload_n 0, 1) := by decide +kernel
theorem dJ9_max_7cf53_1 : decode cJ9_max_7cf53 1 = .ok (.iload_n 1, 1) := by decide +kernel
theorem dJ9_max_7cf53_2 : decode cJ9_max_7cf53 2 = .ok (.if_icmp .lt 7, 3) := by decide +kernel
theorem dJ9_max_7cf53_5 : decode cJ9_max_7cf53 5 = .ok (.iload_n 0, 1) := by decide +kernel
theorem dJ9_max_7cf53_6 : decode cJ9_max_7cf53 6 = .ok (.goto 4, 3) := by decide +kernel
theorem dJ9_max_7cf53_9 : decode cJ9_max_7cf53 9 = .ok (.iload_n 1, 1) := by decide +kernel
theorem dJ9_max_7cf53_10 : decode cJ9_max_7cf53 10 = .ok (.ireturn, 1) := by decide +kernel
theorem dJ7_fill_53178_0 : decode cJ7_fill_53178 0 = .ok (.iconst 0, 1) := by decide +kernel
theorem dJ7_fill_53178_1 : decode cJ7_fill_53178 1 = .ok (.istore_n 2, 1) := by decide +kernel
theorem dJ7_fill_53178_2 : decode cJ7_fill_53178 2 = .ok (.aload_n 0, 1) := by decide +kernel
theorem dJ7_fill_53178_3 : decode cJ7_fill_53178 3 = .ok (.arraylength, 1) := by decide +kernel
theorem dJ7_fill_53178_4 : decode cJ7_fill_53178 4 = .ok (.istore_n 3, 1) := by decide +kernel
theorem dJ7_fill_53178_5 : decode cJ7_fill_53178 5 = .ok (.iload_n 2, 1) := by decide +kernel
theorem dJ7_fill_53178_6 : decode cJ7_fill_53178 6 = .ok (.iload_n 3, 1) := by decide +kernel
theorem dJ7_fill_53178_7 : decode cJ7_fill_53178 7 = .ok (.if_icmp .ge 13, 3) := by decide +kernel
theorem dJ7_fill_53178_10 : decode cJ7_fill_53178 10 = .ok (.aload_n 0, 1) := by decide +kernel
theorem dJ7_fill_53178_11 : decode cJ7_fill_53178 11 = .ok (.iload_n 2, 1) := by decide +kernel
theorem dJ7_fill_53178_12 : decode cJ7_fill_53178 12 = .ok (.iload_n 1, 1) := by decide +kernel
theorem dJ7_fill_53178_13 : decode cJ7_fill_53178 13 = .ok (.iastore, 1) := by decide +kernel
theorem dJ7_fill_53178_14 : decode cJ7_fill_53178 14 = .ok (.iinc 2 1, 3) := by decide +kernel
theorem dJ7_fill_53178_17 : decode cJ7_fill_53178 17 = .ok (.goto (-12), 3) := by decide +kernel
theorem dJ7_fill_53178_20 : decode cJ7_fill_53178 20 = .ok (.return_, 1) := by decide +kernel
theorem dL_cell_0 : decode cL_cell 0 = .ok (.iload_n 1, 1) := by decide +kernel
theorem dL_cell_1 : decode cL_cell 1 = .ok (.aload_n 0, 1) := by decide +kernel
theorem dL_cell_2 : decode cL_cell 2 = .ok (.arraylength, 1) := by decide +kernel
theorem dL_cell_3 : decode cL_cell 3 = .ok (.if_icmp .ge 9, 3) := by decide +kernel
theorem dL_cell_6 : decode cL_cell 6 = .ok (.aload_n 0, 1) := by decide +kernel
theorem dL_cell_7 : decode cL_cell 7 = .ok (.iload_n 1, 1) := by decide +kernel
theorem dL_cell_8 : decode cL_cell 8 = .ok (.iaload, 1) := by decide +kernel
theorem dL_cell_9 : decode cL_cell 9 = .ok (.goto 15, 3) := by decide +kernel
theorem dL_cell_12 : decode cL_cell 12 = .ok (.sipush 7919, 3) := by decide +kernel
theorem dL_cell_15 : decode cL_cell 15 = .ok (.iload_n 1, 1) := by decide +kernel
theorem dL_cell_16 : decode cL_cell 16 = .ok (.iconst 3, 1) := by decide +kernel
theorem dL_cell_17 : decode cL_cell 17 = .ok (.iadd, 1) := by decide +kernel
theorem dL_cell_18 : decode cL_cell 18 = .ok (.imul, 1) := by decide +kernel
theorem dL_cell_19 : decode cL_cell 19 = .ok (.iload_n 1, 1) := by decide +kernel
theorem dL_cell_20 : decode cL_cell 20 = .ok (.bipush 11, 2) := by decide +kernel
theorem dL_cell_22 : decode cL_cell 22 = .ok (.iadd, 1) := by decide +kernel
theorem dL_cell_23 : decode cL_cell 23 = .ok (.imul, 1) := by decide +kernel
theorem dL_cell_24 : decode cL_cell 24 = .ok (.ireturn, 1) := by decide +kernel
theorem dL_low_0 : decode cL_low 0 = .ok (.iload_n 0, 1) := by decide +kernel
theorem dL_low_1 : decode cL_low 1 = .ok (.ldc 7, 2) := by decide +kernel
theorem dL_low_3 : decode cL_low 3 = .ok (.iand, 1) := by decide +kernel
theorem dL_low_4 : decode cL_low 4 = .ok (.iload_n 1, 1) := by decide +kernel
theorem dL_low_5 : decode cL_low 5 = .ok (.irem, 1) := by decide +kernel
theorem dL_low_6 : decode cL_low 6 = .ok (.ireturn, 1) := by decide +kernel
set_option maxRecDepth 20000 in
theorem ggL_isWalk_X0_walk : GoodIn wsL_isWalk wsX0_walk := goodIn_ca (goodIn_ca (goodIn_r _ [5, 6, 7, 8, 9, 4, 10, 11, 12, 13, 14, 15, 16, 17, 18, 19, 20, 21, 22, 23, 24, 25, 26, 27, 28, 29, 30, 31, 32, 33, 34, 35, 36, 37, 38, 39, 40, 41, 42, 43, 44, 45, 46, 47, 48, 49, 50, 51, 52, 53, 54, 55, 56, 57, 58, 59, 60, 61, 62, 63, 64, 65, 66, 79, 80, 81, 82, 83, 84, 85, 86, 87, 88] (by decide +kernel) (by decide +kernel)) (goodIn_sub (fun _ h => List.mem_cons_of_mem _ (List.mem_append_left _ (List.mem_append_right _ h))) (by decide +kernel))) (goodIn_sub (fun _ h => List.mem_cons_of_mem _ (List.mem_append_right _ h)) (by decide +kernel))
set_option maxRecDepth 20000 in
theorem gL_isWalk_X0_walk : GoodIn wsL_isWalk (wsV RL 8 RX0 yX0_walk wsX0_walk) := goodIn_app (goodIn_of _ (by decide +kernel)) ggL_isWalk_X0_walk
set_option maxRecDepth 20000 in
theorem ggL_isWalk_X0_placeBehind : GoodIn wsL_isWalk wsX0_placeBehind := goodIn_ca (goodIn_ca (goodIn_r _ [70, 16, 17, 8, 9, 4, 10, 11, 12, 13, 14, 15, 18, 19, 20, 71, 72, 73, 74, 29, 30, 31, 32, 33, 34, 35, 36, 37, 38, 39, 40, 41, 42, 43, 44, 45, 46, 47, 48, 49, 50, 51, 52, 53, 54, 55, 56, 57, 58, 59, 60, 61, 62, 63, 64, 65, 66, 79, 80, 81, 82, 83, 84, 85, 86, 87, 88] (by decide +kernel) (by decide +kernel)) (goodIn_sub (fun _ h => List.mem_cons_of_mem _ (List.mem_append_right _ h)) (by decide +kernel))) (goodIn_sub (fun _ h => List.mem_cons_of_mem _ (List.mem_append_left _ (List.mem_append_right _ h))) (by decide +kernel))
set_option maxRecDepth 20000 in
theorem gL_isWalk_X0_placeBehind : GoodIn wsL_isWalk (wsV RL 14 RX0 yX0_placeBehind wsX0_placeBehind) := goodIn_app (goodIn_of _ (by decide +kernel)) ggL_isWalk_X0_placeBehind
set_option maxRecDepth 20000 in
theorem ggL_isWalk_X0_walkBySteps : GoodIn wsL_isWalk wsX0_walkBySteps := goodIn_ca (goodIn_ca (goodIn_r _ [78, 8, 9, 4, 10, 11, 12, 13, 14, 15, 16, 17, 18, 19, 20, 25, 26, 27, 28, 29, 30, 31, 32, 33, 34, 35, 36, 37, 38, 39, 40, 41, 42, 43, 44, 45, 46, 47, 48, 49, 50, 51, 52, 53, 54, 55, 56, 57, 58, 59, 60, 61, 62, 63, 64, 65, 66, 79, 80, 81, 82, 83, 84, 85, 86, 87, 88] (by decide +kernel) (by decide +kernel)) (goodIn_sub (fun _ h => List.mem_cons_of_mem _ (List.mem_append_left _ (List.mem_append_right _ h))) (by decide +kernel))) (goodIn_sub (fun _ h => List.mem_cons_of_mem _ (List.mem_append_right _ h)) (by decide +kernel))
set_option maxRecDepth 20000 in
theorem gL_isWalk_X0_walkBySteps : GoodIn wsL_isWalk (wsV RL 18 RX0 yX0_walkBySteps wsX0_walkBySteps) := goodIn_app (goodIn_of _ (by decide +kernel)) ggL_isWalk_X0_walkBySteps
theorem dL_isWalk_0 : decode cL_isWalk 0 = .ok (.aload_n 0, 1) := by decide +kernel
theorem dL_isWalk_1 : decode cL_isWalk 1 = .ok (.iload_n 1, 1) := by decide +kernel
theorem dL_isWalk_2 : decode cL_isWalk 2 = .ok (.iload_n 2, 1) := by decide +kernel
theorem dL_isWalk_3 : decode cL_isWalk 3 = .ok (.iload_n 3, 1) := by decide +kernel
theorem dL_isWalk_4 : decode cL_isWalk 4 = .ok (.invokevirtual 8, 3) := by decide +kernel
theorem dL_isWalk_7 : decode cL_isWalk 7 = .ok (.istore 4, 2) := by decide +kernel
theorem dL_isWalk_9 : decode cL_isWalk 9 = .ok (.aload_n 0, 1) := by decide +kernel
theorem dL_isWalk_10 : decode cL_isWalk 10 = .ok (.iload_n 1, 1) := by decide +kernel
theorem dL_isWalk_11 : decode cL_isWalk 11 = .ok (.iload_n 2, 1) := by decide +kernel
theorem dL_isWalk_12 : decode cL_isWalk 12 = .ok (.iload_n 3, 1) := by decide +kernel
theorem dL_isWalk_13 : decode cL_isWalk 13 = .ok (.bipush 30, 2) := by decide +kernel
theorem dL_isWalk_15 : decode cL_isWalk 15 = .ok (.invokevirtual 14, 3) := by decide +kernel
theorem dL_isWalk_18 : decode cL_isWalk 18 = .ok (.istore 5, 2) := by decide +kernel
theorem dL_isWalk_20 : decode cL_isWalk 20 = .ok (.aload_n 0, 1) := by decide +kernel
theorem dL_isWalk_21 : decode cL_isWalk 21 = .ok (.iload_n 1, 1) := by decide +kernel
theorem dL_isWalk_22 : decode cL_isWalk 22 = .ok (.iload_n 2, 1) := by decide +kernel
theorem dL_isWalk_23 : decode cL_isWalk 23 = .ok (.iload_n 3, 1) := by decide +kernel
theorem dL_isWalk_24 : decode cL_isWalk 24 = .ok (.invokevirtual 18, 3) := by decide +kernel
theorem dL_isWalk_27 : decode cL_isWalk 27 = .ok (.iload 4, 2) := by decide +kernel
theorem dL_isWalk_29 : decode cL_isWalk 29 = .ok (.if_icmp .ne 32, 3) := by decide +kernel
theorem dL_isWalk_32 : decode cL_isWalk 32 = .ok (.iload 4, 2) := by decide +kernel
theorem dL_isWalk_34 : decode cL_isWalk 34 = .ok (.iconst (-1), 1) := by decide +kernel
theorem dL_isWalk_35 : decode cL_isWalk 35 = .ok (.if_icmp .lt 26, 3) := by decide +kernel
theorem dL_isWalk_38 : decode cL_isWalk 38 = .ok (.iload 4, 2) := by decide +kernel
theorem dL_isWalk_40 : decode cL_isWalk 40 = .ok (.bipush 30, 2) := by decide +kernel
theorem dL_isWalk_42 : decode cL_isWalk 42 = .ok (.if_icmp .gt 19, 3) := by decide +kernel
theorem dL_isWalk_45 : decode cL_isWalk 45 = .ok (.aload_n 0, 1) := by decide +kernel
theorem dL_isWalk_46 : decode cL_isWalk 46 = .ok (.iload_n 1, 1) := by decide +kernel
theorem dL_isWalk_47 : decode cL_isWalk 47 = .ok (.iload_n 2, 1) := by decide +kernel
theorem dL_isWalk_48 : decode cL_isWalk 48 = .ok (.iload_n 3, 1) := by decide +kernel
theorem dL_isWalk_49 : decode cL_isWalk 49 = .ok (.iconst 0, 1) := by decide +kernel
theorem dL_isWalk_50 : decode cL_isWalk 50 = .ok (.invokevirtual 14, 3) := by decide +kernel
theorem dL_isWalk_53 : decode cL_isWalk 53 = .ok (.iload_n 1, 1) := by decide +kernel
theorem dL_isWalk_54 : decode cL_isWalk 54 = .ok (.if_icmp .ne 7, 3) := by decide +kernel
theorem dL_isWalk_57 : decode cL_isWalk 57 = .ok (.iconst 1, 1) := by decide +kernel
theorem dL_isWalk_58 : decode cL_isWalk 58 = .ok (.goto 4, 3) := by decide +kernel
theorem dL_isWalk_61 : decode cL_isWalk 61 = .ok (.iconst 0, 1) := by decide +kernel
theorem dL_isWalk_62 : decode cL_isWalk 62 = .ok (.istore 6, 2) := by decide +kernel
theorem dL_isWalk_64 : decode cL_isWalk 64 = .ok (.iload 6, 2) := by decide +kernel
theorem dL_isWalk_66 : decode cL_isWalk 66 = .ok (.ifCond .eq 38, 3) := by decide +kernel
theorem dL_isWalk_69 : decode cL_isWalk 69 = .ok (.iload 5, 2) := by decide +kernel
theorem dL_isWalk_71 : decode cL_isWalk 71 = .ok (.ifCond .lt 33, 3) := by decide +kernel
theorem dL_isWalk_74 : decode cL_isWalk 74 = .ok (.iload 5, 2) := by decide +kernel
theorem dL_isWalk_76 : decode cL_isWalk 76 = .ok (.bipush 8, 2) := by decide +kernel
theorem dL_isWalk_78 : decode cL_isWalk 78 = .ok (.if_icmp .ge 26, 3) := by decide +kernel
theorem dL_isWalk_81 : decode cL_isWalk 81 = .ok (.iload 4, 2) := by decide +kernel
theorem dL_isWalk_83 : decode cL_isWalk 83 = .ok (.ifCond .lt 17, 3) := by decide +kernel
theorem dL_isWalk_86 : decode cL_isWalk 86 = .ok (.aload_n 0, 1) := by decide +kernel
theorem dL_isWalk_87 : decode cL_isWalk 87 = .ok (.iload_n 1, 1) := by decide +kernel
theorem dL_isWalk_88 : decode cL_isWalk 88 = .ok (.iload_n 2, 1) := by decide +kernel
theorem dL_isWalk_89 : decode cL_isWalk 89 = .ok (.iload_n 3, 1) := by decide +kernel
theorem dL_isWalk_90 : decode cL_isWalk 90 = .ok (.iload 4, 2) := by decide +kernel
theorem dL_isWalk_92 : decode cL_isWalk 92 = .ok (.invokevirtual 14, 3) := by decide +kernel
theorem dL_isWalk_95 : decode cL_isWalk 95 = .ok (.iload 5, 2) := by decide +kernel
theorem dL_isWalk_97 : decode cL_isWalk 97 = .ok (.if_icmp .ne 7, 3) := by decide +kernel
theorem dL_isWalk_100 : decode cL_isWalk 100 = .ok (.iconst 1, 1) := by decide +kernel
theorem dL_isWalk_101 : decode cL_isWalk 101 = .ok (.goto 4, 3) := by decide +kernel
theorem dL_isWalk_104 : decode cL_isWalk 104 = .ok (.iconst 0, 1) := by decide +kernel
theorem dL_isWalk_105 : decode cL_isWalk 105 = .ok (.ireturn, 1) := by decide +kernel
set_option maxRecDepth 20000 in
theorem ggL_areGlyphs_X0_difference : GoodIn wsL_areGlyphs wsX0_difference := goodIn_ca (goodIn_r _ [5, 6, 7, 8, 4, 9, 10, 11, 12, 13, 14, 15, 16, 17, 18, 19, 20, 21, 45, 46, 47, 48, 49, 50, 51, 52, 53, 54] (by decide +kernel) (by decide +kernel)) (goodIn_sub (fun _ h => List.mem_cons_of_mem _ (List.mem_append_right _ h)) (by decide +kernel))
set_option maxRecDepth 20000 in
theorem gL_areGlyphs_X0_difference : GoodIn wsL_areGlyphs (wsV RL 21 RX0 yX0_difference wsX0_difference) := goodIn_app (goodIn_of _ (by decide +kernel)) ggL_areGlyphs_X0_difference
set_option maxRecDepth 20000 in
theorem ggL_areGlyphs_X0_width : GoodIn wsL_areGlyphs wsX0_width := goodIn_ca (goodIn_r _ [25, 6, 7, 8, 4, 9, 10, 11, 26, 27, 28, 29, 30, 31, 32, 33, 34, 35, 36, 37, 38, 39, 40, 41, 42, 43, 44, 45, 46, 47, 48, 49, 50, 51, 52, 53, 54] (by decide +kernel) (by decide +kernel)) (goodIn_sub (fun _ h => List.mem_cons_of_mem _ (List.mem_append_right _ h)) (by decide +kernel))
set_option maxRecDepth 20000 in
theorem gL_areGlyphs_X0_width : GoodIn wsL_areGlyphs (wsV RL 25 RX0 yX0_width wsX0_width) := goodIn_app (goodIn_of _ (by decide +kernel)) ggL_areGlyphs_X0_width
theorem dL_areGlyphs_0 : decode cL_areGlyphs 0 = .ok (.aload_n 0, 1) := by decide +kernel
theorem dL_areGlyphs_1 : decode cL_areGlyphs 1 = .ok (.iload_n 1, 1) := by decide +kernel
theorem dL_areGlyphs_2 : decode cL_areGlyphs 2 = .ok (.iload_n 2, 1) := by decide +kernel
theorem dL_areGlyphs_3 : decode cL_areGlyphs 3 = .ok (.invokevirtual 21, 3) := by decide +kernel
theorem dL_areGlyphs_6 : decode cL_areGlyphs 6 = .ok (.istore_n 3, 1) := by decide +kernel
theorem dL_areGlyphs_7 : decode cL_areGlyphs 7 = .ok (.iload_n 3, 1) := by decide +kernel
theorem dL_areGlyphs_8 : decode cL_areGlyphs 8 = .ok (.ifCond .lt 50, 3) := by decide +kernel
theorem dL_areGlyphs_11 : decode cL_areGlyphs 11 = .ok (.iload_n 3, 1) := by decide +kernel
theorem dL_areGlyphs_12 : decode cL_areGlyphs 12 = .ok (.bipush 25, 2) := by decide +kernel
theorem dL_areGlyphs_14 : decode cL_areGlyphs 14 = .ok (.if_icmp .gt 44, 3) := by decide +kernel
theorem dL_areGlyphs_17 : decode cL_areGlyphs 17 = .ok (.aload_n 0, 1) := by decide +kernel
theorem dL_areGlyphs_18 : decode cL_areGlyphs 18 = .ok (.iload_n 2, 1) := by decide +kernel
theorem dL_areGlyphs_19 : decode cL_areGlyphs 19 = .ok (.iload_n 1, 1) := by decide +kernel
theorem dL_areGlyphs_20 : decode cL_areGlyphs 20 = .ok (.invokevirtual 21, 3) := by decide +kernel
theorem dL_areGlyphs_23 : decode cL_areGlyphs 23 = .ok (.iload_n 3, 1) := by decide +kernel
theorem dL_areGlyphs_24 : decode cL_areGlyphs 24 = .ok (.if_icmp .ne 34, 3) := by decide +kernel
theorem dL_areGlyphs_27 : decode cL_areGlyphs 27 = .ok (.aload_n 0, 1) := by decide +kernel
theorem dL_areGlyphs_28 : decode cL_areGlyphs 28 = .ok (.iload_n 1, 1) := by decide +kernel
theorem dL_areGlyphs_29 : decode cL_areGlyphs 29 = .ok (.iload_n 1, 1) := by decide +kernel
theorem dL_areGlyphs_30 : decode cL_areGlyphs 30 = .ok (.invokevirtual 21, 3) := by decide +kernel
theorem dL_areGlyphs_33 : decode cL_areGlyphs 33 = .ok (.ifCond .ne 25, 3) := by decide +kernel
theorem dL_areGlyphs_36 : decode cL_areGlyphs 36 = .ok (.aload_n 0, 1) := by decide +kernel
theorem dL_areGlyphs_37 : decode cL_areGlyphs 37 = .ok (.iload_n 1, 1) := by decide +kernel
theorem dL_areGlyphs_38 : decode cL_areGlyphs 38 = .ok (.invokevirtual 25, 3) := by decide +kernel
theorem dL_areGlyphs_41 : decode cL_areGlyphs 41 = .ok (.iconst 1, 1) := by decide +kernel
theorem dL_areGlyphs_42 : decode cL_areGlyphs 42 = .ok (.if_icmp .lt 16, 3) := by decide +kernel
theorem dL_areGlyphs_45 : decode cL_areGlyphs 45 = .ok (.aload_n 0, 1) := by decide +kernel
theorem dL_areGlyphs_46 : decode cL_areGlyphs 46 = .ok (.iload_n 1, 1) := by decide +kernel
theorem dL_areGlyphs_47 : decode cL_areGlyphs 47 = .ok (.invokevirtual 25, 3) := by decide +kernel
theorem dL_areGlyphs_50 : decode cL_areGlyphs 50 = .ok (.iconst 5, 1) := by decide +kernel
theorem dL_areGlyphs_51 : decode cL_areGlyphs 51 = .ok (.if_icmp .gt 7, 3) := by decide +kernel
theorem dL_areGlyphs_54 : decode cL_areGlyphs 54 = .ok (.iconst 1, 1) := by decide +kernel
theorem dL_areGlyphs_55 : decode cL_areGlyphs 55 = .ok (.goto 4, 3) := by decide +kernel
theorem dL_areGlyphs_58 : decode cL_areGlyphs 58 = .ok (.iconst 0, 1) := by decide +kernel
theorem dL_areGlyphs_59 : decode cL_areGlyphs 59 = .ok (.ireturn, 1) := by decide +kernel
end
section
set_option maxRecDepth 20000 in
theorem ggL_law_X0_init : GoodIn wsL_law wsX0_init := goodIn_r _ [6, 7, 8, 9, 3, 10, 11, 12, 13, 14, 15, 16, 17, 18, 19, 20, 21, 22, 23, 213, 214, 215, 216, 217, 218, 219, 220, 221, 222] (by decide +kernel) (by decide +kernel)
set_option maxRecDepth 20000 in
theorem gL_law_X0_init : GoodIn wsL_law (wsX0_init) := ggL_law_X0_init
set_option maxRecDepth 20000 in
theorem ggL_law_L_cell : GoodIn wsL_law wsL_cell := goodIn_r _ [27] (by decide +kernel) (by decide +kernel)
set_option maxRecDepth 20000 in
theorem gL_law_L_cell : GoodIn wsL_law (va_wsS RL 30 yL_cell wsL_cell) := goodIn_app (goodIn_of _ (by decide +kernel)) ggL_law_L_cell
set_option maxRecDepth 20000 in
theorem ggL_law_L_low : GoodIn wsL_law wsL_low := goodIn_r _ [30, 31] (by decide +kernel) (by decide +kernel)
set_option maxRecDepth 20000 in
theorem gL_law_L_low : GoodIn wsL_law (va_wsS RL 36 yL_low wsL_low) := goodIn_app (goodIn_of _ (by decide +kernel)) ggL_law_L_low
set_option maxRecDepth 20000 in
theorem ggL_law_X0_stroke : GoodIn wsL_law wsX0_stroke := goodIn_ca (goodIn_ca (goodIn_r _ [35, 10, 36, 37, 2, 38, 39, 40, 41, 42, 43, 44, 45, 46, 47, 48, 49, 50, 51, 52, 53, 54, 55, 56, 57, 58, 59, 60, 61, 62, 63, 64, 65, 18, 66, 67, 68, 69, 70, 71, 72, 73, 74, 75, 213, 214, 215, 216, 217, 218, 219, 220, 221, 222] (by decide +kernel) (by decide +kernel)) (goodIn_sub (fun _ h => List.mem_append_left _ (List.mem_append_left _ (List.mem_append_right _ h))) (by decide +kernel))) (goodIn_sub (fun _ h => List.mem_append_left _ (List.mem_append_right _ h)) (by decide +kernel))
set_option maxRecDepth 20000 in
theorem gL_law_X0_stroke : GoodIn wsL_law (wsV RL 39 RX0 yX0_stroke wsX0_stroke) := goodIn_app (goodIn_of _ (by decide +kernel)) ggL_law_X0_stroke
set_option maxRecDepth 20000 in
theorem ggL_law_X0_space : GoodIn wsL_law wsX0_space := goodIn_ca (goodIn_ca (goodIn_r _ [79, 44, 45, 11, 36, 37, 2, 38, 39, 40, 80, 81, 82, 213, 214, 215, 216, 217, 218, 219, 220, 221, 222] (by decide +kernel) (by decide +kernel)) (goodIn_sub (fun _ h => List.mem_append_left _ (List.mem_append_right _ h)) (by decide +kernel))) (goodIn_sub (fun _ h => List.mem_append_left _ (List.mem_append_left _ (List.mem_append_right _ h))) (by decide +kernel))
set_option maxRecDepth 20000 in
theorem gL_law_X0_space : GoodIn wsL_law (wsV RL 43 RX0 yX0_space wsX0_space) := goodIn_app (goodIn_of _ (by decide +kernel)) ggL_law_X0_space
set_option maxRecDepth 20000 in
theorem ggL_law_X0_lead : GoodIn wsL_law wsX0_lead := goodIn_ca (goodIn_r _ [86, 12, 87, 88, 2, 89, 39, 40, 90, 91, 92, 93, 94, 95, 62, 63, 64, 65, 18, 213, 214, 215, 216, 217, 218, 219, 220, 221, 222] (by decide +kernel) (by decide +kernel)) (goodIn_sub (fun _ h => List.mem_append_left _ (List.mem_append_left _ (List.mem_append_right _ h))) (by decide +kernel))
set_option maxRecDepth 20000 in
theorem gL_law_X0_lead : GoodIn wsL_law (wsV RL 46 RX0 yX0_lead wsX0_lead) := goodIn_app (goodIn_of _ (by decide +kernel)) ggL_law_X0_lead
set_option maxRecDepth 20000 in
theorem ggL_law_X0_name : GoodIn wsL_law wsX0_name := goodIn_ca (goodIn_ca (goodIn_r _ [99, 13, 90, 91, 2, 92, 39, 40, 100, 101, 102, 44, 45, 103, 104, 105, 62, 63, 64, 65, 18, 213, 214, 215, 216, 217, 218, 219, 220, 221, 222] (by decide +kernel) (by decide +kernel)) (goodIn_sub (fun _ h => List.mem_append_left _ (List.mem_append_left _ (List.mem_append_right _ h))) (by decide +kernel))) (goodIn_sub (fun _ h => List.mem_append_left _ (List.mem_append_right _ h)) (by decide +kernel))
set_option maxRecDepth 20000 in
theorem gL_law_X0_name : GoodIn wsL_law (wsV RL 49 RX0 yX0_name wsX0_name) := goodIn_app (goodIn_of _ (by decide +kernel)) ggL_law_X0_name
set_option maxRecDepth 20000 in
theorem ggL_law_X0_walk : GoodIn wsL_law wsX0_walk := goodIn_ca (goodIn_ca (goodIn_r _ [109, 18, 19, 90, 91, 2, 92, 39, 40, 100, 101, 102, 44, 45, 103, 104, 105, 20, 21, 22, 23, 110, 111, 112, 113, 13, 12, 114, 115, 116, 117, 93, 94, 95, 118, 119, 120, 121, 14, 16, 15, 122, 123, 124, 125, 126, 127, 128, 10, 129, 130, 131, 132, 66, 67, 68, 69, 70, 71, 72, 73, 74, 75, 213, 214, 215, 216, 217, 218, 219, 220, 221, 222] (by decide +kernel) (by decide +kernel)) (goodIn_sub (fun _ h => List.mem_append_left _ (List.mem_append_left _ (List.mem_append_right _ h))) (by decide +kernel))) (goodIn_sub (fun _ h => List.mem_append_left _ (List.mem_append_right _ h)) (by decide +kernel))
set_option maxRecDepth 20000 in
theorem gL_law_X0_walk : GoodIn wsL_law (wsV RL 8 RX0 yX0_walk wsX0_walk) := goodIn_app (goodIn_of _ (by decide +kernel)) ggL_law_X0_walk
set_option maxRecDepth 20000 in
theorem ggL_law_X0_textWidth : GoodIn wsL_law wsX0_textWidth := goodIn_ca (goodIn_r _ [136, 100, 101, 2, 102, 44, 45, 103, 104, 105, 137, 138, 139, 140, 10, 11, 122, 123, 124, 141, 142, 143, 144, 145, 146, 147, 148, 149, 53, 54, 55, 46, 47, 48, 49, 56, 57, 58, 59, 60, 61, 80, 81, 82, 213, 214, 215, 216, 217, 218, 219, 220, 221, 222] (by decide +kernel) (by decide +kernel)) (goodIn_sub (fun _ h => List.mem_append_left _ (List.mem_append_right _ h)) (by decide +kernel))
set_option maxRecDepth 20000 in
theorem gL_law_X0_textWidth : GoodIn wsL_law (wsV RL 53 RX0 yX0_textWidth wsX0_textWidth) := goodIn_app (goodIn_of _ (by decide +kernel)) ggL_law_X0_textWidth
set_option maxRecDepth 20000 in
theorem ggL_law_X0_cut : GoodIn wsL_law wsX0_cut := goodIn_ca (goodIn_ca (goodIn_ca (goodIn_r _ [153, 44, 45, 154, 155, 14, 15, 87, 88, 2, 89, 39, 40, 90, 91, 92, 100, 101, 102, 103, 104, 105, 156, 157, 158, 159, 137, 138, 139, 140, 10, 11, 122, 123, 124, 141, 142, 143, 144, 145, 146, 147, 148, 149, 53, 54, 55, 46, 47, 48, 49, 56, 57, 58, 59, 60, 61, 80, 81, 82, 93, 94, 95, 160, 161, 162, 163, 16, 17, 62, 63, 64, 65, 18, 213, 214, 215, 216, 217, 218, 219, 220, 221, 222] (by decide +kernel) (by decide +kernel)) (goodIn_sub (fun _ h => List.mem_append_left _ (List.mem_append_right _ h)) (by decide +kernel))) (goodIn_sub (fun _ h => List.mem_append_right _ h) (by decide +kernel))) (goodIn_sub (fun _ h => List.mem_append_left _ (List.mem_append_left _ (List.mem_append_right _ h))) (by decide +kernel))
set_option maxRecDepth 20000 in
theorem gL_law_X0_cut : GoodIn wsL_law (wsV RL 56 RX0 yX0_cut wsX0_cut) := goodIn_app (goodIn_of _ (by decide +kernel)) ggL_law_X0_cut
set_option maxRecDepth 20000 in
theorem ggL_law_X0_isOld : GoodIn wsL_law wsX0_isOld := goodIn_ca (goodIn_r _ [167, 87, 88, 2, 89, 39, 40, 90, 91, 92, 93, 94, 95, 168, 169, 170, 171, 14, 16, 10, 122, 123, 124, 141, 142, 143, 213, 214, 215, 216, 217, 218, 219, 220, 221, 222] (by decide +kernel) (by decide +kernel)) (goodIn_sub (fun _ h => List.mem_append_left _ (List.mem_append_left _ (List.mem_append_right _ h))) (by decide +kernel))
set_option maxRecDepth 20000 in
theorem gL_law_X0_isOld : GoodIn wsL_law (wsV RL 60 RX0 yX0_isOld wsX0_isOld) := goodIn_app (goodIn_of _ (by decide +kernel)) ggL_law_X0_isOld
set_option maxRecDepth 20000 in
theorem ggL_law_X0_remove : GoodIn wsL_law wsX0_remove := goodIn_ca (goodIn_r _ [175, 14, 87, 88, 2, 89, 39, 40, 90, 91, 92, 93, 94, 95, 62, 63, 64, 65, 18, 213, 214, 215, 216, 217, 218, 219, 220, 221, 222] (by decide +kernel) (by decide +kernel)) (goodIn_sub (fun _ h => List.mem_append_left _ (List.mem_append_left _ (List.mem_append_right _ h))) (by decide +kernel))
set_option maxRecDepth 20000 in
theorem gL_law_X0_remove : GoodIn wsL_law (wsV RL 64 RX0 yX0_remove wsX0_remove) := goodIn_app (goodIn_of _ (by decide +kernel)) ggL_law_X0_remove
set_option maxRecDepth 20000 in
theorem ggL_law_L_isWalk : GoodIn wsL_law wsL_isWalk := goodIn_ca (goodIn_ca (goodIn_r _ [178, 106, 107, 108, 2, 109, 18, 19, 90, 91, 92, 39, 40, 100, 101, 102, 44, 45, 103, 104, 105, 20, 21, 22, 23, 110, 111, 112, 113, 13, 12, 114, 115, 116, 117, 93, 94, 95, 118, 119, 120, 121, 14, 16, 15, 122, 123, 124, 125, 126, 127, 128, 10, 129, 130, 131, 132, 66, 67, 68, 69, 70, 71, 72, 73, 74, 75, 179, 180, 181, 182, 183, 184, 185, 186, 187, 188, 189, 190, 213, 214, 215, 216, 217, 218, 219, 220, 221, 222] (by decide +kernel) (by decide +kernel)) (goodIn_sub (fun _ h => List.mem_append_left _ (List.mem_append_left _ (List.mem_append_right _ h))) (by decide +kernel))) (goodIn_sub (fun _ h => List.mem_append_left _ (List.mem_append_right _ h)) (by decide +kernel))
set_option maxRecDepth 20000 in
theorem gL_law_L_isWalk : GoodIn wsL_law (va_wsS RL 67 yL_isWalk wsL_isWalk) := goodIn_app (goodIn_of _ (by decide +kernel)) ggL_law_L_isWalk
set_option maxRecDepth 20000 in
theorem ggL_law_X0_read : GoodIn wsL_law wsX0_read := goodIn_ca (goodIn_r _ [194, 14, 87, 88, 2, 89, 39, 40, 90, 91, 92, 93, 94, 95, 118, 119, 120, 121, 16, 15, 122, 123, 124, 125, 126, 127, 128, 10, 129, 130, 131, 132, 66, 67, 68, 69, 70, 71, 72, 73, 74, 75, 103, 104, 105, 195, 196, 197, 213, 214, 215, 216, 217, 218, 219, 220, 221, 222] (by decide +kernel) (by decide +kernel)) (goodIn_sub (fun _ h => List.mem_append_left _ (List.mem_append_left _ (List.mem_append_right _ h))) (by decide +kernel))
set_option maxRecDepth 20000 in
theorem gL_law_X0_read : GoodIn wsL_law (wsV RL 71 RX0 yX0_read wsX0_read) := goodIn_app (goodIn_of _ (by decide +kernel)) ggL_law_X0_read
set_option maxRecDepth 20000 in
theorem ggL_law_X0_cost : GoodIn wsL_law wsX0_cost := goodIn_r _ [201, 17, 213, 214, 215, 216, 217, 218, 219, 220, 221, 222] (by decide +kernel) (by decide +kernel)
set_option maxRecDepth 20000 in
theorem gL_law_X0_cost : GoodIn wsL_law (wsV RL 74 RX0 yX0_cost wsX0_cost) := goodIn_app (goodIn_of _ (by decide +kernel)) ggL_law_X0_cost
set_option maxRecDepth 20000 in
theorem ggL_law_L_areGlyphs : GoodIn wsL_law wsL_areGlyphs := goodIn_ca (goodIn_r _ [204, 205, 206, 207, 2, 208, 10, 36, 37, 38, 39, 40, 66, 67, 68, 69, 70, 71, 72, 73, 74, 75, 209, 210, 211, 212, 144, 145, 146, 147, 148, 149, 53, 54, 55, 46, 47, 48, 49, 56, 57, 58, 59, 60, 61, 213, 214, 215, 216, 217, 218, 219, 220, 221, 222] (by decide +kernel) (by decide +kernel)) (goodIn_sub (fun _ h => List.mem_append_left _ (List.mem_append_left _ (List.mem_append_right _ h))) (by decide +kernel))
set_option maxRecDepth 20000 in
theorem gL_law_L_areGlyphs : GoodIn wsL_law (va_wsS RL 78 yL_areGlyphs wsL_areGlyphs) := goodIn_app (goodIn_of _ (by decide +kernel)) ggL_law_L_areGlyphs
end
section
theorem dL_law_0 : decode cL_law 0 = .ok (.new 9, 3) := by decide +kernel
theorem dL_law_3 : decode cL_law 3 = .ok (.dup, 1) := by decide +kernel
theorem dL_law_4 : decode cL_law 4 = .ok (.invokespecial 29, 3) := by decide +kernel
theorem dL_law_7 : decode cL_law 7 = .ok (.astore_n 1, 1) := by decide +kernel
theorem dL_law_8 : decode cL_law 8 = .ok (.bipush 32, 2) := by decide +kernel
theorem dL_law_10 : decode cL_law 10 = .ok (.newarray .int, 2) := by decide +kernel
theorem dL_law_12 : decode cL_law 12 = .ok (.astore_n 2, 1) := by decide +kernel
theorem dL_law_13 : decode cL_law 13 = .ok (.bipush 32, 2) := by decide +kernel
theorem dL_law_15 : decode cL_law 15 = .ok (.newarray .int, 2) := by decide +kernel
theorem dL_law_17 : decode cL_law 17 = .ok (.astore_n 3, 1) := by decide +kernel
theorem dL_law_18 : decode cL_law 18 = .ok (.lconst 0, 1) := by decide +kernel
theorem dL_law_19 : decode cL_law 19 = .ok (.lstore 4, 2) := by decide +kernel
theorem dL_law_21 : decode cL_law 21 = .ok (.iconst 0, 1) := by decide +kernel
theorem dL_law_22 : decode cL_law 22 = .ok (.istore 6, 2) := by decide +kernel
theorem dL_law_24 : decode cL_law 24 = .ok (.iload 6, 2) := by decide +kernel
theorem dL_law_26 : decode cL_law 26 = .ok (.bipush 32, 2) := by decide +kernel
theorem dL_law_28 : decode cL_law 28 = .ok (.if_icmp .ge 14, 3) := by decide +kernel
theorem dL_law_31 : decode cL_law 31 = .ok (.aload_n 3, 1) := by decide +kernel
theorem dL_law_32 : decode cL_law 32 = .ok (.iload 6, 2) := by decide +kernel
theorem dL_law_34 : decode cL_law 34 = .ok (.iconst (-1), 1) := by decide +kernel
theorem dL_law_35 : decode cL_law 35 = .ok (.iastore, 1) := by decide +kernel
theorem dL_law_36 : decode cL_law 36 = .ok (.iinc 6 1, 3) := by decide +kernel
theorem dL_law_39 : decode cL_law 39 = .ok (.goto (-15), 3) := by decide +kernel
theorem dL_law_42 : decode cL_law 42 = .ok (.iconst 0, 1) := by decide +kernel
theorem dL_law_43 : decode cL_law 43 = .ok (.istore 6, 2) := by decide +kernel
theorem dL_law_45 : decode cL_law 45 = .ok (.iload 6, 2) := by decide +kernel
theorem dL_law_47 : decode cL_law 47 = .ok (.bipush 60, 2) := by decide +kernel
theorem dL_law_49 : decode cL_law 49 = .ok (.if_icmp .ge 784, 3) := by decide +kernel
theorem dL_law_52 : decode cL_law 52 = .ok (.aload_n 0, 1) := by decide +kernel
theorem dL_law_53 : decode cL_law 53 = .ok (.iconst 2, 1) := by decide +kernel
theorem dL_law_54 : decode cL_law 54 = .ok (.iload 6, 2) := by decide +kernel
theorem dL_law_56 : decode cL_law 56 = .ok (.imul, 1) := by decide +kernel
theorem dL_law_57 : decode cL_law 57 = .ok (.invokestatic 30, 3) := by decide +kernel
theorem dL_law_60 : decode cL_law 60 = .ok (.istore 7, 2) := by decide +kernel
theorem dL_law_62 : decode cL_law 62 = .ok (.aload_n 0, 1) := by decide +kernel
theorem dL_law_63 : decode cL_law 63 = .ok (.iconst 2, 1) := by decide +kernel
theorem dL_law_64 : decode cL_law 64 = .ok (.iload 6, 2) := by decide +kernel
theorem dL_law_66 : decode cL_law 66 = .ok (.imul, 1) := by decide +kernel
theorem dL_law_67 : decode cL_law 67 = .ok (.iconst 1, 1) := by decide +kernel
theorem dL_law_68 : decode cL_law 68 = .ok (.iadd, 1) := by decide +kernel
theorem dL_law_69 : decode cL_law 69 = .ok (.invokestatic 30, 3) := by decide +kernel
theorem dL_law_72 : decode cL_law 72 = .ok (.istore 8, 2) := by decide +kernel
theorem dL_law_74 : decode cL_law 74 = .ok (.iload 7, 2) := by decide +kernel
theorem dL_law_76 : decode cL_law 76 = .ok (.bipush 13, 2) := by decide +kernel
theorem dL_law_78 : decode cL_law 78 = .ok (.invokestatic 36, 3) := by decide +kernel
theorem dL_law_81 : decode cL_law 81 = .ok (.istore 9, 2) := by decide +kernel
theorem dL_law_83 : decode cL_law 83 = .ok (.iload 8, 2) := by decide +kernel
theorem dL_law_85 : decode cL_law 85 = .ok (.bipush 8, 2) := by decide +kernel
theorem dL_law_87 : decode cL_law 87 = .ok (.invokestatic 36, 3) := by decide +kernel
theorem dL_law_90 : decode cL_law 90 = .ok (.istore 10, 2) := by decide +kernel
theorem dL_law_92 : decode cL_law 92 = .ok (.iload 8, 2) := by decide +kernel
theorem dL_law_94 : decode cL_law 94 = .ok (.iconst 3, 1) := by decide +kernel
theorem dL_law_95 : decode cL_law 95 = .ok (.ishr, 1) := by decide +kernel
theorem dL_law_96 : decode cL_law 96 = .ok (.iconst 4, 1) := by decide +kernel
theorem dL_law_97 : decode cL_law 97 = .ok (.invokestatic 36, 3) := by decide +kernel
theorem dL_law_100 : decode cL_law 100 = .ok (.istore 11, 2) := by decide +kernel
theorem dL_law_102 : decode cL_law 102 = .ok (.iconst 4, 1) := by decide +kernel
theorem dL_law_103 : decode cL_law 103 = .ok (.iload 10, 2) := by decide +kernel
theorem dL_law_105 : decode cL_law 105 = .ok (.imul, 1) := by decide +kernel
theorem dL_law_106 : decode cL_law 106 = .ok (.iload 11, 2) := by decide +kernel
theorem dL_law_108 : decode cL_law 108 = .ok (.iadd, 1) := by decide +kernel
theorem dL_law_109 : decode cL_law 109 = .ok (.istore 12, 2) := by decide +kernel
theorem dL_law_111 : decode cL_law 111 = .ok (.iconst 1, 1) := by decide +kernel
theorem dL_law_112 : decode cL_law 112 = .ok (.iload 8, 2) := by decide +kernel
theorem dL_law_114 : decode cL_law 114 = .ok (.iconst 5, 1) := by decide +kernel
theorem dL_law_115 : decode cL_law 115 = .ok (.ishr, 1) := by decide +kernel
theorem dL_law_116 : decode cL_law 116 = .ok (.iconst 5, 1) := by decide +kernel
theorem dL_law_117 : decode cL_law 117 = .ok (.invokestatic 36, 3) := by decide +kernel
theorem dL_law_120 : decode cL_law 120 = .ok (.iadd, 1) := by decide +kernel
theorem dL_law_121 : decode cL_law 121 = .ok (.istore 13, 2) := by decide +kernel
theorem dL_law_123 : decode cL_law 123 = .ok (.iload 8, 2) := by decide +kernel
theorem dL_law_125 : decode cL_law 125 = .ok (.bipush 8, 2) := by decide +kernel
theorem dL_law_127 : decode cL_law 127 = .ok (.ishr, 1) := by decide +kernel
theorem dL_law_128 : decode cL_law 128 = .ok (.iconst 1, 1) := by decide +kernel
theorem dL_law_129 : decode cL_law 129 = .ok (.iconst 3, 1) := by decide +kernel
theorem dL_law_130 : decode cL_law 130 = .ok (.iload 13, 2) := by decide +kernel
theorem dL_law_132 : decode cL_law 132 = .ok (.imul, 1) := by decide +kernel
theorem dL_law_133 : decode cL_law 133 = .ok (.ishl, 1) := by decide +kernel
theorem dL_law_134 : decode cL_law 134 = .ok (.invokestatic 36, 3) := by decide +kernel
theorem dL_law_137 : decode cL_law 137 = .ok (.istore 14, 2) := by decide +kernel
theorem dL_law_139 : decode cL_law 139 = .ok (.iconst 1, 1) := by decide +kernel
theorem dL_law_140 : decode cL_law 140 = .ok (.istore 15, 2) := by decide +kernel
theorem dL_law_142 : decode cL_law 142 = .ok (.iload 9, 2) := by decide +kernel
theorem dL_law_144 : decode cL_law 144 = .ok (.iconst 4, 1) := by decide +kernel
theorem dL_law_145 : decode cL_law 145 = .ok (.if_icmp .ge 202, 3) := by decide +kernel
theorem dL_law_148 : decode cL_law 148 = .ok (.iload 8, 2) := by decide +kernel
theorem dL_law_150 : decode cL_law 150 = .ok (.bipush 8, 2) := by decide +kernel
theorem dL_law_152 : decode cL_law 152 = .ok (.invokestatic 36, 3) := by decide +kernel
theorem dL_law_155 : decode cL_law 155 = .ok (.istore 16, 2) := by decide +kernel
theorem dL_law_157 : decode cL_law 157 = .ok (.iload 8, 2) := by decide +kernel
theorem dL_law_159 : decode cL_law 159 = .ok (.iconst 3, 1) := by decide +kernel
theorem dL_law_160 : decode cL_law 160 = .ok (.ishr, 1) := by decide +kernel
theorem dL_law_161 : decode cL_law 161 = .ok (.iconst 5, 1) := by decide +kernel
theorem dL_law_162 : decode cL_law 162 = .ok (.invokestatic 36, 3) := by decide +kernel
theorem dL_law_165 : decode cL_law 165 = .ok (.istore 17, 2) := by decide +kernel
theorem dL_law_167 : decode cL_law 167 = .ok (.iload 8, 2) := by decide +kernel
theorem dL_law_169 : decode cL_law 169 = .ok (.bipush 6, 2) := by decide +kernel
theorem dL_law_171 : decode cL_law 171 = .ok (.ishr, 1) := by decide +kernel
theorem dL_law_172 : decode cL_law 172 = .ok (.iconst 5, 1) := by decide +kernel
theorem dL_law_173 : decode cL_law 173 = .ok (.invokestatic 36, 3) := by decide +kernel
theorem dL_law_176 : decode cL_law 176 = .ok (.istore 18, 2) := by decide +kernel
theorem dL_law_178 : decode cL_law 178 = .ok (.iload 8, 2) := by decide +kernel
theorem dL_law_180 : decode cL_law 180 = .ok (.bipush 9, 2) := by decide +kernel
theorem dL_law_182 : decode cL_law 182 = .ok (.ishr, 1) := by decide +kernel
theorem dL_law_183 : decode cL_law 183 = .ok (.iconst 5, 1) := by decide +kernel
theorem dL_law_184 : decode cL_law 184 = .ok (.invokestatic 36, 3) := by decide +kernel
theorem dL_law_187 : decode cL_law 187 = .ok (.istore 19, 2) := by decide +kernel
theorem dL_law_189 : decode cL_law 189 = .ok (.iload 17, 2) := by decide +kernel
theorem dL_law_191 : decode cL_law 191 = .ok (.iload 19, 2) := by decide +kernel
theorem dL_law_193 : decode cL_law 193 = .ok (.iadd, 1) := by decide +kernel
theorem dL_law_194 : decode cL_law 194 = .ok (.iconst 5, 1) := by decide +kernel
theorem dL_law_195 : decode cL_law 195 = .ok (.if_icmp .ge 8, 3) := by decide +kernel
theorem dL_law_198 : decode cL_law 198 = .ok (.iload 19, 2) := by decide +kernel
theorem dL_law_200 : decode cL_law 200 = .ok (.goto 18, 3) := by decide +kernel
theorem dL_law_203 : decode cL_law 203 = .ok (.iload 17, 2) := by decide +kernel
theorem dL_law_205 : decode cL_law 205 = .ok (.iload 19, 2) := by decide +kernel
theorem dL_law_207 : decode cL_law 207 = .ok (.isub, 1) := by decide +kernel
theorem dL_law_208 : decode cL_law 208 = .ok (.ifCond .lt 9, 3) := by decide +kernel
theorem dL_law_211 : decode cL_law 211 = .ok (.iload 19, 2) := by decide +kernel
theorem dL_law_213 : decode cL_law 213 = .ok (.ineg, 1) := by decide +kernel
theorem dL_law_214 : decode cL_law 214 = .ok (.goto 4, 3) := by decide +kernel
theorem dL_law_217 : decode cL_law 217 = .ok (.iconst 0, 1) := by decide +kernel
theorem dL_law_218 : decode cL_law 218 = .ok (.istore 20, 2) := by decide +kernel
theorem dL_law_220 : decode cL_law 220 = .ok (.iload 8, 2) := by decide +kernel
theorem dL_law_222 : decode cL_law 222 = .ok (.bipush 12, 2) := by decide +kernel
theorem dL_law_224 : decode cL_law 224 = .ok (.ishr, 1) := by decide +kernel
theorem dL_law_225 : decode cL_law 225 = .ok (.iconst 3, 1) := by decide +kernel
theorem dL_law_226 : decode cL_law 226 = .ok (.invokestatic 36, 3) := by decide +kernel
theorem dL_law_229 : decode cL_law 229 = .ok (.ifCond .ne 7, 3) := by decide +kernel
theorem dL_law_232 : decode cL_law 232 = .ok (.iconst 0, 1) := by decide +kernel
theorem dL_law_233 : decode cL_law 233 = .ok (.goto 23, 3) := by decide +kernel
theorem dL_law_236 : decode cL_law 236 = .ok (.iload 18, 2) := by decide +kernel
theorem dL_law_238 : decode cL_law 238 = .ok (.iload 19, 2) := by decide +kernel
theorem dL_law_240 : decode cL_law 240 = .ok (.iadd, 1) := by decide +kernel
theorem dL_law_241 : decode cL_law 241 = .ok (.iconst 5, 1) := by decide +kernel
theorem dL_law_242 : decode cL_law 242 = .ok (.if_icmp .ge 13, 3) := by decide +kernel
theorem dL_law_245 : decode cL_law 245 = .ok (.iload 20, 2) := by decide +kernel
theorem dL_law_247 : decode cL_law 247 = .ok (.ifCond .eq 8, 3) := by decide +kernel
theorem dL_law_250 : decode cL_law 250 = .ok (.iload 19, 2) := by decide +kernel
theorem dL_law_252 : decode cL_law 252 = .ok (.goto 4, 3) := by decide +kernel
theorem dL_law_255 : decode cL_law 255 = .ok (.iconst 0, 1) := by decide +kernel
theorem dL_law_256 : decode cL_law 256 = .ok (.istore 21, 2) := by decide +kernel
theorem dL_law_258 : decode cL_law 258 = .ok (.iload 8, 2) := by decide +kernel
theorem dL_law_260 : decode cL_law 260 = .ok (.bipush 14, 2) := by decide +kernel
theorem dL_law_262 : decode cL_law 262 = .ok (.ishr, 1) := by decide +kernel
theorem dL_law_263 : decode cL_law 263 = .ok (.iconst 4, 1) := by decide +kernel
end
section
theorem dL_law_264 : decode cL_law 264 = .ok (.invokestatic 36, 3) := by decide +kernel
theorem dL_law_267 : decode cL_law 267 = .ok (.ifCond .le 7, 3) := by decide +kernel
theorem dL_law_270 : decode cL_law 270 = .ok (.iconst 1, 1) := by decide +kernel
theorem dL_law_271 : decode cL_law 271 = .ok (.goto 4, 3) := by decide +kernel
theorem dL_law_274 : decode cL_law 274 = .ok (.iconst 0, 1) := by decide +kernel
theorem dL_law_275 : decode cL_law 275 = .ok (.istore 22, 2) := by decide +kernel
theorem dL_law_277 : decode cL_law 277 = .ok (.aload_n 1, 1) := by decide +kernel
theorem dL_law_278 : decode cL_law 278 = .ok (.iload 16, 2) := by decide +kernel
theorem dL_law_280 : decode cL_law 280 = .ok (.iload 17, 2) := by decide +kernel
theorem dL_law_282 : decode cL_law 282 = .ok (.iload 18, 2) := by decide +kernel
theorem dL_law_284 : decode cL_law 284 = .ok (.iload 17, 2) := by decide +kernel
theorem dL_law_286 : decode cL_law 286 = .ok (.iload 20, 2) := by decide +kernel
theorem dL_law_288 : decode cL_law 288 = .ok (.iadd, 1) := by decide +kernel
theorem dL_law_289 : decode cL_law 289 = .ok (.iload 18, 2) := by decide +kernel
theorem dL_law_291 : decode cL_law 291 = .ok (.iload 21, 2) := by decide +kernel
theorem dL_law_293 : decode cL_law 293 = .ok (.iadd, 1) := by decide +kernel
theorem dL_law_294 : decode cL_law 294 = .ok (.iload 22, 2) := by decide +kernel
theorem dL_law_296 : decode cL_law 296 = .ok (.invokevirtual 39, 3) := by decide +kernel
theorem dL_law_299 : decode cL_law 299 = .ok (.istore 23, 2) := by decide +kernel
theorem dL_law_301 : decode cL_law 301 = .ok (.iload 23, 2) := by decide +kernel
theorem dL_law_303 : decode cL_law 303 = .ok (.ifCond .lt 38, 3) := by decide +kernel
theorem dL_law_306 : decode cL_law 306 = .ok (.iload 23, 2) := by decide +kernel
theorem dL_law_308 : decode cL_law 308 = .ok (.iconst 5, 1) := by decide +kernel
theorem dL_law_309 : decode cL_law 309 = .ok (.if_icmp .gt 32, 3) := by decide +kernel
theorem dL_law_312 : decode cL_law 312 = .ok (.aload_n 1, 1) := by decide +kernel
theorem dL_law_313 : decode cL_law 313 = .ok (.iload 16, 2) := by decide +kernel
theorem dL_law_315 : decode cL_law 315 = .ok (.iload 17, 2) := by decide +kernel
theorem dL_law_317 : decode cL_law 317 = .ok (.iload 18, 2) := by decide +kernel
theorem dL_law_319 : decode cL_law 319 = .ok (.iload 17, 2) := by decide +kernel
theorem dL_law_321 : decode cL_law 321 = .ok (.iload 20, 2) := by decide +kernel
theorem dL_law_323 : decode cL_law 323 = .ok (.iadd, 1) := by decide +kernel
theorem dL_law_324 : decode cL_law 324 = .ok (.iload 18, 2) := by decide +kernel
theorem dL_law_326 : decode cL_law 326 = .ok (.iload 21, 2) := by decide +kernel
theorem dL_law_328 : decode cL_law 328 = .ok (.iadd, 1) := by decide +kernel
theorem dL_law_329 : decode cL_law 329 = .ok (.iload 22, 2) := by decide +kernel
theorem dL_law_331 : decode cL_law 331 = .ok (.invokevirtual 39, 3) := by decide +kernel
theorem dL_law_334 : decode cL_law 334 = .ok (.ifCond .ne 7, 3) := by decide +kernel
theorem dL_law_337 : decode cL_law 337 = .ok (.iconst 1, 1) := by decide +kernel
theorem dL_law_338 : decode cL_law 338 = .ok (.goto 4, 3) := by decide +kernel
theorem dL_law_341 : decode cL_law 341 = .ok (.iconst 0, 1) := by decide +kernel
theorem dL_law_342 : decode cL_law 342 = .ok (.istore 15, 2) := by decide +kernel
theorem dL_law_344 : decode cL_law 344 = .ok (.goto 356, 3) := by decide +kernel
theorem dL_law_347 : decode cL_law 347 = .ok (.iload 9, 2) := by decide +kernel
theorem dL_law_349 : decode cL_law 349 = .ok (.iconst 4, 1) := by decide +kernel
theorem dL_law_350 : decode cL_law 350 = .ok (.if_icmp .ne 76, 3) := by decide +kernel
theorem dL_law_353 : decode cL_law 353 = .ok (.iload 8, 2) := by decide +kernel
theorem dL_law_355 : decode cL_law 355 = .ok (.bipush 6, 2) := by decide +kernel
theorem dL_law_357 : decode cL_law 357 = .ok (.ishr, 1) := by decide +kernel
theorem dL_law_358 : decode cL_law 358 = .ok (.iconst 5, 1) := by decide +kernel
theorem dL_law_359 : decode cL_law 359 = .ok (.invokestatic 36, 3) := by decide +kernel
theorem dL_law_362 : decode cL_law 362 = .ok (.iconst 1, 1) := by decide +kernel
theorem dL_law_363 : decode cL_law 363 = .ok (.isub, 1) := by decide +kernel
theorem dL_law_364 : decode cL_law 364 = .ok (.istore 16, 2) := by decide +kernel
theorem dL_law_366 : decode cL_law 366 = .ok (.aload_n 1, 1) := by decide +kernel
theorem dL_law_367 : decode cL_law 367 = .ok (.iload 8, 2) := by decide +kernel
theorem dL_law_369 : decode cL_law 369 = .ok (.bipush 8, 2) := by decide +kernel
theorem dL_law_371 : decode cL_law 371 = .ok (.invokestatic 36, 3) := by decide +kernel
theorem dL_law_374 : decode cL_law 374 = .ok (.iload 8, 2) := by decide +kernel
theorem dL_law_376 : decode cL_law 376 = .ok (.iconst 3, 1) := by decide +kernel
theorem dL_law_377 : decode cL_law 377 = .ok (.ishr, 1) := by decide +kernel
theorem dL_law_378 : decode cL_law 378 = .ok (.bipush 8, 2) := by decide +kernel
theorem dL_law_380 : decode cL_law 380 = .ok (.invokestatic 36, 3) := by decide +kernel
theorem dL_law_383 : decode cL_law 383 = .ok (.iload 16, 2) := by decide +kernel
theorem dL_law_385 : decode cL_law 385 = .ok (.invokevirtual 43, 3) := by decide +kernel
theorem dL_law_388 : decode cL_law 388 = .ok (.pop, 1) := by decide +kernel
theorem dL_law_389 : decode cL_law 389 = .ok (.aload_n 1, 1) := by decide +kernel
theorem dL_law_390 : decode cL_law 390 = .ok (.iload 8, 2) := by decide +kernel
theorem dL_law_392 : decode cL_law 392 = .ok (.bipush 8, 2) := by decide +kernel
theorem dL_law_394 : decode cL_law 394 = .ok (.invokestatic 36, 3) := by decide +kernel
theorem dL_law_397 : decode cL_law 397 = .ok (.iload 8, 2) := by decide +kernel
theorem dL_law_399 : decode cL_law 399 = .ok (.iconst 3, 1) := by decide +kernel
theorem dL_law_400 : decode cL_law 400 = .ok (.ishr, 1) := by decide +kernel
theorem dL_law_401 : decode cL_law 401 = .ok (.bipush 8, 2) := by decide +kernel
theorem dL_law_403 : decode cL_law 403 = .ok (.invokestatic 36, 3) := by decide +kernel
theorem dL_law_406 : decode cL_law 406 = .ok (.iload 16, 2) := by decide +kernel
theorem dL_law_408 : decode cL_law 408 = .ok (.invokevirtual 43, 3) := by decide +kernel
theorem dL_law_411 : decode cL_law 411 = .ok (.iload 16, 2) := by decide +kernel
theorem dL_law_413 : decode cL_law 413 = .ok (.if_icmp .ne 7, 3) := by decide +kernel
theorem dL_law_416 : decode cL_law 416 = .ok (.iconst 1, 1) := by decide +kernel
theorem dL_law_417 : decode cL_law 417 = .ok (.goto 4, 3) := by decide +kernel
theorem dL_law_420 : decode cL_law 420 = .ok (.iconst 0, 1) := by decide +kernel
theorem dL_law_421 : decode cL_law 421 = .ok (.istore 15, 2) := by decide +kernel
theorem dL_law_423 : decode cL_law 423 = .ok (.goto 277, 3) := by decide +kernel
theorem dL_law_426 : decode cL_law 426 = .ok (.iload 9, 2) := by decide +kernel
theorem dL_law_428 : decode cL_law 428 = .ok (.bipush 7, 2) := by decide +kernel
theorem dL_law_430 : decode cL_law 430 = .ok (.if_icmp .ge 50, 3) := by decide +kernel
theorem dL_law_433 : decode cL_law 433 = .ok (.iload 8, 2) := by decide +kernel
theorem dL_law_435 : decode cL_law 435 = .ok (.bipush 6, 2) := by decide +kernel
theorem dL_law_437 : decode cL_law 437 = .ok (.ishr, 1) := by decide +kernel
theorem dL_law_438 : decode cL_law 438 = .ok (.bipush 9, 2) := by decide +kernel
theorem dL_law_440 : decode cL_law 440 = .ok (.invokestatic 36, 3) := by decide +kernel
theorem dL_law_443 : decode cL_law 443 = .ok (.iconst 1, 1) := by decide +kernel
theorem dL_law_444 : decode cL_law 444 = .ok (.isub, 1) := by decide +kernel
theorem dL_law_445 : decode cL_law 445 = .ok (.istore 16, 2) := by decide +kernel
theorem dL_law_447 : decode cL_law 447 = .ok (.aload_n 1, 1) := by decide +kernel
theorem dL_law_448 : decode cL_law 448 = .ok (.iload 10, 2) := by decide +kernel
theorem dL_law_450 : decode cL_law 450 = .ok (.iload 11, 2) := by decide +kernel
theorem dL_law_452 : decode cL_law 452 = .ok (.iload 16, 2) := by decide +kernel
theorem dL_law_454 : decode cL_law 454 = .ok (.invokevirtual 46, 3) := by decide +kernel
theorem dL_law_457 : decode cL_law 457 = .ok (.aload_n 3, 1) := by decide +kernel
theorem dL_law_458 : decode cL_law 458 = .ok (.iload 12, 2) := by decide +kernel
theorem dL_law_460 : decode cL_law 460 = .ok (.iaload, 1) := by decide +kernel
theorem dL_law_461 : decode cL_law 461 = .ok (.if_icmp .ne 7, 3) := by decide +kernel
theorem dL_law_464 : decode cL_law 464 = .ok (.iconst 1, 1) := by decide +kernel
theorem dL_law_465 : decode cL_law 465 = .ok (.goto 4, 3) := by decide +kernel
theorem dL_law_468 : decode cL_law 468 = .ok (.iconst 0, 1) := by decide +kernel
theorem dL_law_469 : decode cL_law 469 = .ok (.istore 15, 2) := by decide +kernel
theorem dL_law_471 : decode cL_law 471 = .ok (.aload_n 3, 1) := by decide +kernel
theorem dL_law_472 : decode cL_law 472 = .ok (.iload 12, 2) := by decide +kernel
theorem dL_law_474 : decode cL_law 474 = .ok (.iload 16, 2) := by decide +kernel
theorem dL_law_476 : decode cL_law 476 = .ok (.iastore, 1) := by decide +kernel
theorem dL_law_477 : decode cL_law 477 = .ok (.goto 223, 3) := by decide +kernel
theorem dL_law_480 : decode cL_law 480 = .ok (.iload 9, 2) := by decide +kernel
theorem dL_law_482 : decode cL_law 482 = .ok (.bipush 7, 2) := by decide +kernel
theorem dL_law_484 : decode cL_law 484 = .ok (.if_icmp .ne 36, 3) := by decide +kernel
theorem dL_law_487 : decode cL_law 487 = .ok (.aload_n 1, 1) := by decide +kernel
theorem dL_law_488 : decode cL_law 488 = .ok (.iload 10, 2) := by decide +kernel
theorem dL_law_490 : decode cL_law 490 = .ok (.iload 14, 2) := by decide +kernel
theorem dL_law_492 : decode cL_law 492 = .ok (.iload 13, 2) := by decide +kernel
theorem dL_law_494 : decode cL_law 494 = .ok (.invokevirtual 49, 3) := by decide +kernel
theorem dL_law_497 : decode cL_law 497 = .ok (.aload_n 1, 1) := by decide +kernel
theorem dL_law_498 : decode cL_law 498 = .ok (.iload 10, 2) := by decide +kernel
theorem dL_law_500 : decode cL_law 500 = .ok (.iload 14, 2) := by decide +kernel
theorem dL_law_502 : decode cL_law 502 = .ok (.iload 13, 2) := by decide +kernel
theorem dL_law_504 : decode cL_law 504 = .ok (.invokevirtual 8, 3) := by decide +kernel
theorem dL_law_507 : decode cL_law 507 = .ok (.ifCond .ne 7, 3) := by decide +kernel
theorem dL_law_510 : decode cL_law 510 = .ok (.iconst 1, 1) := by decide +kernel
theorem dL_law_511 : decode cL_law 511 = .ok (.goto 4, 3) := by decide +kernel
theorem dL_law_514 : decode cL_law 514 = .ok (.iconst 0, 1) := by decide +kernel
theorem dL_law_515 : decode cL_law 515 = .ok (.istore 15, 2) := by decide +kernel
theorem dL_law_517 : decode cL_law 517 = .ok (.goto 183, 3) := by decide +kernel
theorem dL_law_520 : decode cL_law 520 = .ok (.iload 9, 2) := by decide +kernel
theorem dL_law_522 : decode cL_law 522 = .ok (.bipush 10, 2) := by decide +kernel
theorem dL_law_524 : decode cL_law 524 = .ok (.if_icmp .ge 107, 3) := by decide +kernel
theorem dL_law_527 : decode cL_law 527 = .ok (.aload_n 1, 1) := by decide +kernel
theorem dL_law_528 : decode cL_law 528 = .ok (.iload 14, 2) := by decide +kernel
theorem dL_law_530 : decode cL_law 530 = .ok (.iload 13, 2) := by decide +kernel
theorem dL_law_532 : decode cL_law 532 = .ok (.invokevirtual 53, 3) := by decide +kernel
theorem dL_law_535 : decode cL_law 535 = .ok (.istore 16, 2) := by decide +kernel
theorem dL_law_537 : decode cL_law 537 = .ok (.iload 16, 2) := by decide +kernel
theorem dL_law_539 : decode cL_law 539 = .ok (.bipush 30, 2) := by decide +kernel
theorem dL_law_541 : decode cL_law 541 = .ok (.if_icmp .gt 87, 3) := by decide +kernel
theorem dL_law_544 : decode cL_law 544 = .ok (.aload_n 1, 1) := by decide +kernel
theorem dL_law_545 : decode cL_law 545 = .ok (.iload 10, 2) := by decide +kernel
theorem dL_law_547 : decode cL_law 547 = .ok (.iload 11, 2) := by decide +kernel
theorem dL_law_549 : decode cL_law 549 = .ok (.iload 14, 2) := by decide +kernel
end
section
theorem dL_law_551 : decode cL_law 551 = .ok (.iload 13, 2) := by decide +kernel
theorem dL_law_553 : decode cL_law 553 = .ok (.iload 7, 2) := by decide +kernel
theorem dL_law_555 : decode cL_law 555 = .ok (.iconst 4, 1) := by decide +kernel
theorem dL_law_556 : decode cL_law 556 = .ok (.ishr, 1) := by decide +kernel
theorem dL_law_557 : decode cL_law 557 = .ok (.bipush 10, 2) := by decide +kernel
theorem dL_law_559 : decode cL_law 559 = .ok (.invokestatic 36, 3) := by decide +kernel
theorem dL_law_562 : decode cL_law 562 = .ok (.invokevirtual 56, 3) := by decide +kernel
theorem dL_law_565 : decode cL_law 565 = .ok (.istore 17, 2) := by decide +kernel
theorem dL_law_567 : decode cL_law 567 = .ok (.lload 4, 2) := by decide +kernel
theorem dL_law_569 : decode cL_law 569 = .ok (.iload 17, 2) := by decide +kernel
theorem dL_law_571 : decode cL_law 571 = .ok (.i2l, 1) := by decide +kernel
theorem dL_law_572 : decode cL_law 572 = .ok (.ladd, 1) := by decide +kernel
theorem dL_law_573 : decode cL_law 573 = .ok (.lstore 4, 2) := by decide +kernel
theorem dL_law_575 : decode cL_law 575 = .ok (.aload_n 2, 1) := by decide +kernel
theorem dL_law_576 : decode cL_law 576 = .ok (.iload 12, 2) := by decide +kernel
theorem dL_law_578 : decode cL_law 578 = .ok (.iconst 1, 1) := by decide +kernel
theorem dL_law_579 : decode cL_law 579 = .ok (.iastore, 1) := by decide +kernel
theorem dL_law_580 : decode cL_law 580 = .ok (.iload 17, 2) := by decide +kernel
theorem dL_law_582 : decode cL_law 582 = .ok (.iload 16, 2) := by decide +kernel
theorem dL_law_584 : decode cL_law 584 = .ok (.bipush 10, 2) := by decide +kernel
theorem dL_law_586 : decode cL_law 586 = .ok (.if_icmp .gt 7, 3) := by decide +kernel
theorem dL_law_589 : decode cL_law 589 = .ok (.iconst 4, 1) := by decide +kernel
theorem dL_law_590 : decode cL_law 590 = .ok (.goto 17, 3) := by decide +kernel
theorem dL_law_593 : decode cL_law 593 = .ok (.iload 16, 2) := by decide +kernel
theorem dL_law_595 : decode cL_law 595 = .ok (.bipush 20, 2) := by decide +kernel
theorem dL_law_597 : decode cL_law 597 = .ok (.if_icmp .gt 8, 3) := by decide +kernel
theorem dL_law_600 : decode cL_law 600 = .ok (.bipush 7, 2) := by decide +kernel
theorem dL_law_602 : decode cL_law 602 = .ok (.goto 5, 3) := by decide +kernel
theorem dL_law_605 : decode cL_law 605 = .ok (.bipush 10, 2) := by decide +kernel
theorem dL_law_607 : decode cL_law 607 = .ok (.if_icmp .ne 18, 3) := by decide +kernel
theorem dL_law_610 : decode cL_law 610 = .ok (.aload_n 1, 1) := by decide +kernel
theorem dL_law_611 : decode cL_law 611 = .ok (.iload 10, 2) := by decide +kernel
theorem dL_law_613 : decode cL_law 613 = .ok (.iload 11, 2) := by decide +kernel
theorem dL_law_615 : decode cL_law 615 = .ok (.invokevirtual 60, 3) := by decide +kernel
theorem dL_law_618 : decode cL_law 618 = .ok (.ifCond .ne 7, 3) := by decide +kernel
theorem dL_law_621 : decode cL_law 621 = .ok (.iconst 1, 1) := by decide +kernel
theorem dL_law_622 : decode cL_law 622 = .ok (.goto 4, 3) := by decide +kernel
theorem dL_law_625 : decode cL_law 625 = .ok (.iconst 0, 1) := by decide +kernel
theorem dL_law_626 : decode cL_law 626 = .ok (.istore 15, 2) := by decide +kernel
theorem dL_law_628 : decode cL_law 628 = .ok (.goto 72, 3) := by decide +kernel
theorem dL_law_631 : decode cL_law 631 = .ok (.iload 9, 2) := by decide +kernel
theorem dL_law_633 : decode cL_law 633 = .ok (.bipush 10, 2) := by decide +kernel
theorem dL_law_635 : decode cL_law 635 = .ok (.if_icmp .ne 53, 3) := by decide +kernel
theorem dL_law_638 : decode cL_law 638 = .ok (.aload_n 1, 1) := by decide +kernel
theorem dL_law_639 : decode cL_law 639 = .ok (.iload 10, 2) := by decide +kernel
theorem dL_law_641 : decode cL_law 641 = .ok (.iload 11, 2) := by decide +kernel
theorem dL_law_643 : decode cL_law 643 = .ok (.invokevirtual 64, 3) := by decide +kernel
theorem dL_law_646 : decode cL_law 646 = .ok (.aload_n 2, 1) := by decide +kernel
theorem dL_law_647 : decode cL_law 647 = .ok (.iload 12, 2) := by decide +kernel
theorem dL_law_649 : decode cL_law 649 = .ok (.iaload, 1) := by decide +kernel
theorem dL_law_650 : decode cL_law 650 = .ok (.iconst 1, 1) := by decide +kernel
theorem dL_law_651 : decode cL_law 651 = .ok (.if_icmp .ne 7, 3) := by decide +kernel
theorem dL_law_654 : decode cL_law 654 = .ok (.iconst 1, 1) := by decide +kernel
theorem dL_law_655 : decode cL_law 655 = .ok (.goto 4, 3) := by decide +kernel
theorem dL_law_658 : decode cL_law 658 = .ok (.iconst 0, 1) := by decide +kernel
theorem dL_law_659 : decode cL_law 659 = .ok (.if_icmp .ne 18, 3) := by decide +kernel
theorem dL_law_662 : decode cL_law 662 = .ok (.aload_n 1, 1) := by decide +kernel
theorem dL_law_663 : decode cL_law 663 = .ok (.iload 10, 2) := by decide +kernel
theorem dL_law_665 : decode cL_law 665 = .ok (.iload 11, 2) := by decide +kernel
theorem dL_law_667 : decode cL_law 667 = .ok (.invokevirtual 60, 3) := by decide +kernel
theorem dL_law_670 : decode cL_law 670 = .ok (.ifCond .ne 7, 3) := by decide +kernel
theorem dL_law_673 : decode cL_law 673 = .ok (.iconst 1, 1) := by decide +kernel
theorem dL_law_674 : decode cL_law 674 = .ok (.goto 4, 3) := by decide +kernel
theorem dL_law_677 : decode cL_law 677 = .ok (.iconst 0, 1) := by decide +kernel
theorem dL_law_678 : decode cL_law 678 = .ok (.istore 15, 2) := by decide +kernel
theorem dL_law_680 : decode cL_law 680 = .ok (.aload_n 2, 1) := by decide +kernel
theorem dL_law_681 : decode cL_law 681 = .ok (.iload 12, 2) := by decide +kernel
theorem dL_law_683 : decode cL_law 683 = .ok (.iconst 0, 1) := by decide +kernel
theorem dL_law_684 : decode cL_law 684 = .ok (.iastore, 1) := by decide +kernel
theorem dL_law_685 : decode cL_law 685 = .ok (.goto 15, 3) := by decide +kernel
theorem dL_law_688 : decode cL_law 688 = .ok (.aload_n 1, 1) := by decide +kernel
theorem dL_law_689 : decode cL_law 689 = .ok (.iload 10, 2) := by decide +kernel
theorem dL_law_691 : decode cL_law 691 = .ok (.iload 14, 2) := by decide +kernel
theorem dL_law_693 : decode cL_law 693 = .ok (.iload 13, 2) := by decide +kernel
theorem dL_law_695 : decode cL_law 695 = .ok (.invokestatic 67, 3) := by decide +kernel
theorem dL_law_698 : decode cL_law 698 = .ok (.istore 15, 2) := by decide +kernel
theorem dL_law_700 : decode cL_law 700 = .ok (.iconst 0, 1) := by decide +kernel
theorem dL_law_701 : decode cL_law 701 = .ok (.istore 16, 2) := by decide +kernel
theorem dL_law_703 : decode cL_law 703 = .ok (.iload 16, 2) := by decide +kernel
theorem dL_law_705 : decode cL_law 705 = .ok (.bipush 32, 2) := by decide +kernel
theorem dL_law_707 : decode cL_law 707 = .ok (.if_icmp .ge 80, 3) := by decide +kernel
theorem dL_law_710 : decode cL_law 710 = .ok (.iload 15, 2) := by decide +kernel
theorem dL_law_712 : decode cL_law 712 = .ok (.ifCond .eq 75, 3) := by decide +kernel
theorem dL_law_715 : decode cL_law 715 = .ok (.aload_n 1, 1) := by decide +kernel
theorem dL_law_716 : decode cL_law 716 = .ok (.iload 16, 2) := by decide +kernel
theorem dL_law_718 : decode cL_law 718 = .ok (.iconst 4, 1) := by decide +kernel
theorem dL_law_719 : decode cL_law 719 = .ok (.idiv, 1) := by decide +kernel
theorem dL_law_720 : decode cL_law 720 = .ok (.iload 16, 2) := by decide +kernel
theorem dL_law_722 : decode cL_law 722 = .ok (.iconst 4, 1) := by decide +kernel
theorem dL_law_723 : decode cL_law 723 = .ok (.irem, 1) := by decide +kernel
theorem dL_law_724 : decode cL_law 724 = .ok (.invokevirtual 71, 3) := by decide +kernel
theorem dL_law_727 : decode cL_law 727 = .ok (.ifCond .lt 7, 3) := by decide +kernel
theorem dL_law_730 : decode cL_law 730 = .ok (.iconst 1, 1) := by decide +kernel
theorem dL_law_731 : decode cL_law 731 = .ok (.goto 4, 3) := by decide +kernel
theorem dL_law_734 : decode cL_law 734 = .ok (.iconst 0, 1) := by decide +kernel
theorem dL_law_735 : decode cL_law 735 = .ok (.aload_n 2, 1) := by decide +kernel
theorem dL_law_736 : decode cL_law 736 = .ok (.iload 16, 2) := by decide +kernel
theorem dL_law_738 : decode cL_law 738 = .ok (.iaload, 1) := by decide +kernel
theorem dL_law_739 : decode cL_law 739 = .ok (.iconst 1, 1) := by decide +kernel
theorem dL_law_740 : decode cL_law 740 = .ok (.if_icmp .ne 7, 3) := by decide +kernel
theorem dL_law_743 : decode cL_law 743 = .ok (.iconst 1, 1) := by decide +kernel
theorem dL_law_744 : decode cL_law 744 = .ok (.goto 4, 3) := by decide +kernel
theorem dL_law_747 : decode cL_law 747 = .ok (.iconst 0, 1) := by decide +kernel
theorem dL_law_748 : decode cL_law 748 = .ok (.if_icmp .ne 30, 3) := by decide +kernel
theorem dL_law_751 : decode cL_law 751 = .ok (.aload_n 2, 1) := by decide +kernel
theorem dL_law_752 : decode cL_law 752 = .ok (.iload 16, 2) := by decide +kernel
theorem dL_law_754 : decode cL_law 754 = .ok (.iaload, 1) := by decide +kernel
theorem dL_law_755 : decode cL_law 755 = .ok (.iconst 1, 1) := by decide +kernel
theorem dL_law_756 : decode cL_law 756 = .ok (.if_icmp .eq 18, 3) := by decide +kernel
theorem dL_law_759 : decode cL_law 759 = .ok (.aload_n 1, 1) := by decide +kernel
theorem dL_law_760 : decode cL_law 760 = .ok (.iload 16, 2) := by decide +kernel
theorem dL_law_762 : decode cL_law 762 = .ok (.iconst 4, 1) := by decide +kernel
theorem dL_law_763 : decode cL_law 763 = .ok (.idiv, 1) := by decide +kernel
theorem dL_law_764 : decode cL_law 764 = .ok (.iload 16, 2) := by decide +kernel
theorem dL_law_766 : decode cL_law 766 = .ok (.iconst 4, 1) := by decide +kernel
theorem dL_law_767 : decode cL_law 767 = .ok (.irem, 1) := by decide +kernel
theorem dL_law_768 : decode cL_law 768 = .ok (.invokevirtual 60, 3) := by decide +kernel
theorem dL_law_771 : decode cL_law 771 = .ok (.ifCond .ne 7, 3) := by decide +kernel
theorem dL_law_774 : decode cL_law 774 = .ok (.iconst 1, 1) := by decide +kernel
theorem dL_law_775 : decode cL_law 775 = .ok (.goto 4, 3) := by decide +kernel
theorem dL_law_778 : decode cL_law 778 = .ok (.iconst 0, 1) := by decide +kernel
theorem dL_law_779 : decode cL_law 779 = .ok (.istore 15, 2) := by decide +kernel
theorem dL_law_781 : decode cL_law 781 = .ok (.iinc 16 5, 3) := by decide +kernel
theorem dL_law_784 : decode cL_law 784 = .ok (.goto (-81), 3) := by decide +kernel
theorem dL_law_787 : decode cL_law 787 = .ok (.iload 15, 2) := by decide +kernel
theorem dL_law_789 : decode cL_law 789 = .ok (.ifCond .eq 36, 3) := by decide +kernel
theorem dL_law_792 : decode cL_law 792 = .ok (.aload_n 1, 1) := by decide +kernel
theorem dL_law_793 : decode cL_law 793 = .ok (.invokevirtual 74, 3) := by decide +kernel
theorem dL_law_796 : decode cL_law 796 = .ok (.lload 4, 2) := by decide +kernel
theorem dL_law_798 : decode cL_law 798 = .ok (.lcmp, 1) := by decide +kernel
theorem dL_law_799 : decode cL_law 799 = .ok (.ifCond .ne 26, 3) := by decide +kernel
theorem dL_law_802 : decode cL_law 802 = .ok (.aload_n 1, 1) := by decide +kernel
theorem dL_law_803 : decode cL_law 803 = .ok (.iload 7, 2) := by decide +kernel
theorem dL_law_805 : decode cL_law 805 = .ok (.iconst 4, 1) := by decide +kernel
theorem dL_law_806 : decode cL_law 806 = .ok (.ishr, 1) := by decide +kernel
theorem dL_law_807 : decode cL_law 807 = .ok (.bipush 8, 2) := by decide +kernel
theorem dL_law_809 : decode cL_law 809 = .ok (.invokestatic 36, 3) := by decide +kernel
theorem dL_law_812 : decode cL_law 812 = .ok (.iload 8, 2) := by decide +kernel
theorem dL_law_814 : decode cL_law 814 = .ok (.bipush 8, 2) := by decide +kernel
theorem dL_law_816 : decode cL_law 816 = .ok (.invokestatic 36, 3) := by decide +kernel
theorem dL_law_819 : decode cL_law 819 = .ok (.invokestatic 78, 3) := by decide +kernel
theorem dL_law_822 : decode cL_law 822 = .ok (.ifCond .ne 5, 3) := by decide +kernel
theorem dL_law_825 : decode cL_law 825 = .ok (.iconst 0, 1) := by decide +kernel
theorem dL_law_826 : decode cL_law 826 = .ok (.ireturn, 1) := by decide +kernel
theorem dL_law_827 : decode cL_law 827 = .ok (.iinc 6 1, 3) := by decide +kernel
theorem dL_law_830 : decode cL_law 830 = .ok (.goto (-785), 3) := by decide +kernel
theorem dL_law_833 : decode cL_law 833 = .ok (.iconst 1, 1) := by decide +kernel
theorem dL_law_834 : decode cL_law 834 = .ok (.ireturn, 1) := by decide +kernel
end
section
/-! own rows: numbers as nI, answers of two values as bI, loops, contracts of methods that only read (k_M), that write (k_WQ), that throw (k_XC) -/
def bI (b : Bool) : Int32 := if b then 1 else 0
theorem bI_t : bI true = 1 := rfl
theorem bI_f : bI false = 0 := rfl
theorem bI_0 {b : Bool} : bI b = 0 ↔ b = false := by cases b <;> decide
theorem bI_nar (b : Bool) : narrow .boolean (.int (bI b)) = .int (bI b) := by cases b <;> rfl
theorem nI_inc (a : Nat) : nI a + Int32.ofInt 1 = nI (a + 1) := nI_1 a
theorem nI_ne_m1 {a : Nat} (h : a < 2 ^ 31) : nI a ≠ -1 := by
  intro h1
  have h2 : (nI a).toInt = (-1 : Int32).toInt := by rw [h1]
  rw [nI_toInt h] at h2
  have h3 : (-1 : Int32).toInt = -1 := by decide
  omega
theorem nI_inj {a b : Nat} (ha : a < 2 ^ 31) (hb : b < 2 ^ 31) (h : nI a = nI b) : a = b := (nI_eq ha hb).mp h
def k_Q (v : Option Value) : Array Value → State → Outcome → State → Prop := fun _ st o t => o = .returned v ∧ t.heap = st.heap
def k_P (As : List Value) (B : State → Prop) : Array Value → State → Prop := fun a U => a = As.toArray ∧ B U
def k_N : Addr → Prop := fun _ => False
abbrev k_M (l : Launch) (y : MethodName) (ws : List Cond) (rm : Room) (As : List Value) (B : State → Prop) (v : Option Value) : Prop := Met l y ws rm (k_P As B) (k_Q v) 0 0 k_N
def k_bl (B : State → Prop) : Prop := ∀ (a : Array Value) (U : State) (g : JFrame) (mk : MethodId), B U → B (U.calling g mk a)
def k_tt : State → Prop := fun _ => True
theorem k_bl_tt : k_bl k_tt := fun _ _ _ _ h => h
theorem k_P_bl {As : List Value} {B : State → Prop} (h : k_bl B) : FrameBlind (k_P As B) := fun a U g mk q => ⟨q.1, h a U g mk q.2⟩
def k_B (D : va_G) (w : va_W) (tys : List (ClassId × FieldType)) : State → Prop := fun U => va_P D vwCl w U.heap ∧ va_K D vwCl tys U
theorem k_B_bl {D : va_G} {w : va_W} {tys : List (ClassId × FieldType)} : k_bl (k_B D w tys) := fun a U g mk h => ⟨h.1, va_K.moved (u := U) (U := U.calling g mk a) (Vm.Alike.refl U.vm) h.2⟩
theorem k_B_of {D : va_G} {w : va_W} {tys : List (ClassId × FieldType)} {s : State} {H : Heap} (hP : va_P D vwCl w H) (hK : va_K D vwCl tys s) : ∀ U : State, U.heap = H → s.WarmedH U.vm → k_B D w tys U := fun U hU hW => ⟨by rw [hU]; exact hP, va_K.moved hW.alike hK⟩
def k_A (w : va_W) : Addr → Prop := fun q => ∃ (k : Nat) (e : va_E), w[k]? = some (q, e)
def k_WQ {S : Type} (D : va_G) (w : va_W) (px : S → Prop) (w' : S → va_W) (ans : S → Option Value) : Array Value → State → Outcome → State → Prop := fun _ st o t => ∃ u : S, px u ∧ o = .returned (ans u) ∧ va_P D vwCl (w' u) t.heap ∧ va_F (k_A w) st t
def k_CQ (v : Option Value) (C : Prop) : Array Value → State → Outcome → State → Prop := fun _ st o t => o = .returned v ∧ t.heap = st.heap ∧ C
def k_XC (px : String → Prop) : String → State → State → Prop := fun E st t => px E ∧ va_F k_N st t
theorem k_A_D {w : va_W} {A : Nat → Prop} (h : va_D A w) : va_D (k_A w) w := ⟨h.1, fun k q hk => ⟨k, q.2, hk⟩⟩
theorem k_D_tt {w : va_W} {A : Nat → Prop} (h : va_D A w) : va_D (fun _ => True) w := ⟨h.1, fun _ _ _ => trivial⟩
theorem k_D_map {w w' : va_W} {A : Nat → Prop} (hm : w'.map Prod.fst = w.map Prod.fst) (h : va_D A w) : va_D A w' := by
  have tr : ∀ (k : Nat) (q : Nat × va_E), w'[k]? = some q → ∃ e, w[k]? = some (q.1, e) := by
    intro k q hk
    have h1 : (w'.map Prod.fst)[k]? = some q.1 := by rw [List.getElem?_map, hk]; rfl
    rw [hm, List.getElem?_map] at h1
    cases hw : w[k]? with
    | none => rw [hw] at h1; cases h1
    | some z =>
      rw [hw] at h1
      obtain ⟨z1, z2⟩ := z
      cases h1
      exact ⟨z2, rfl⟩
  refine ⟨fun i j p q hi hj hpq => ?_, fun k q hk => ?_⟩
  · obtain ⟨e1, h1⟩ := tr i p hi
    obtain ⟨e2, h2⟩ := tr j q hj
    exact h.1 i j _ _ h1 h2 hpq
  · obtain ⟨e1, h1⟩ := tr k q hk
    exact h.2 k (q.1, e1) h1
section LIBA
variable {p : Program} {l : Launch} {e : Env} {R : Room} {s : State} {m : MethodId} {args : Array Value} {below : List Frame} {meth : Method} {c : Code} {H : Heap} {locs : List Loc} {cells slots : Nat} {Q : State → Prop}
variable {cc : ByteArray} {pc : Nat} {ls : Array Slot} {rest st0 : List Value}
theorem n_icmp_ge (hexec : p.tables.exec = Jvm.exec) (hb : c.code = cc) {a b : Nat} {off : Int} {tgt : Nat} (hdg : decode cc pc = .ok (.if_icmp .ge off, 3)) (ht : (pc : Int) + off = (tgt : Int)) (ha : a < 2 ^ 31) (hb' : b < 2 ^ 31)
    (kt : b ≤ a → W p l e R s m args below meth c H locs cells slots Q (F0 m tgt ls rest)) (kf : a < b → W p l e R s m args below meth c H locs cells slots Q (F0 m (pc + 3) ls rest)) : W p l e R s m args below meth c H locs cells slots Q (F0 m pc ls (.int (nI b) :: .int (nI a) :: rest)) :=
  lv_icmp_ge hexec hb hdg ht (fun h => kt ((nI_leI hb' ha).mp h)) (fun h => kf (Nat.lt_of_not_le fun q => h ((nI_leI hb' ha).mpr q)))
theorem n_icmp_lt (hexec : p.tables.exec = Jvm.exec) (hb : c.code = cc) {a b : Nat} {off : Int} {tgt : Nat} (hdg : decode cc pc = .ok (.if_icmp .lt off, 3)) (ht : (pc : Int) + off = (tgt : Int)) (ha : a < 2 ^ 31) (hb' : b < 2 ^ 31)
    (kt : a < b → W p l e R s m args below meth c H locs cells slots Q (F0 m tgt ls rest)) (kf : b ≤ a → W p l e R s m args below meth c H locs cells slots Q (F0 m (pc + 3) ls rest)) : W p l e R s m args below meth c H locs cells slots Q (F0 m pc ls (.int (nI b) :: .int (nI a) :: rest)) :=
  lv_icmp_lt hexec hb hdg ht (fun h => kt ((nI_ltI ha hb').mp h)) (fun h => kf (Nat.le_of_not_lt fun q => h ((nI_ltI ha hb').mpr q)))
theorem n_icmp_gt (hexec : p.tables.exec = Jvm.exec) (hb : c.code = cc) {a b : Nat} {off : Int} {tgt : Nat} (hdg : decode cc pc = .ok (.if_icmp .gt off, 3)) (ht : (pc : Int) + off = (tgt : Int)) (ha : a < 2 ^ 31) (hb' : b < 2 ^ 31)
    (kt : b < a → W p l e R s m args below meth c H locs cells slots Q (F0 m tgt ls rest)) (kf : a ≤ b → W p l e R s m args below meth c H locs cells slots Q (F0 m (pc + 3) ls rest)) : W p l e R s m args below meth c H locs cells slots Q (F0 m pc ls (.int (nI b) :: .int (nI a) :: rest)) :=
  lv_icmp_gt hexec hb hdg ht (fun h => kt ((nI_ltI hb' ha).mp h)) (fun h => kf (Nat.le_of_not_lt fun q => h ((nI_ltI hb' ha).mpr q)))
theorem n_icmp_le (hexec : p.tables.exec = Jvm.exec) (hb : c.code = cc) {a b : Nat} {off : Int} {tgt : Nat} (hdg : decode cc pc = .ok (.if_icmp .le off, 3)) (ht : (pc : Int) + off = (tgt : Int)) (ha : a < 2 ^ 31) (hb' : b < 2 ^ 31)
    (kt : a ≤ b → W p l e R s m args below meth c H locs cells slots Q (F0 m tgt ls rest)) (kf : b < a → W p l e R s m args below meth c H locs cells slots Q (F0 m (pc + 3) ls rest)) : W p l e R s m args below meth c H locs cells slots Q (F0 m pc ls (.int (nI b) :: .int (nI a) :: rest)) :=
  lv_icmp_le hexec hb hdg ht (fun h => kt ((nI_leI ha hb').mp h)) (fun h => kf (Nat.lt_of_not_le fun q => h ((nI_leI ha hb').mpr q)))
theorem n_icmp_eq (hexec : p.tables.exec = Jvm.exec) (hb : c.code = cc) {a b : Nat} {off : Int} {tgt : Nat} (hdg : decode cc pc = .ok (.if_icmp .eq off, 3)) (ht : (pc : Int) + off = (tgt : Int)) (ha : a < 2 ^ 31) (hb' : b < 2 ^ 31)
    (kt : a = b → W p l e R s m args below meth c H locs cells slots Q (F0 m tgt ls rest)) (kf : a ≠ b → W p l e R s m args below meth c H locs cells slots Q (F0 m (pc + 3) ls rest)) : W p l e R s m args below meth c H locs cells slots Q (F0 m pc ls (.int (nI b) :: .int (nI a) :: rest)) :=
  lv_icmp_eq hexec hb hdg ht (fun h => kt (nI_inj ha hb' h)) (fun h => kf fun q => h (by rw [q]))
theorem n_icmp_ne (hexec : p.tables.exec = Jvm.exec) (hb : c.code = cc) {a b : Nat} {off : Int} {tgt : Nat} (hdg : decode cc pc = .ok (.if_icmp .ne off, 3)) (ht : (pc : Int) + off = (tgt : Int)) (ha : a < 2 ^ 31) (hb' : b < 2 ^ 31)
    (kt : a ≠ b → W p l e R s m args below meth c H locs cells slots Q (F0 m tgt ls rest)) (kf : a = b → W p l e R s m args below meth c H locs cells slots Q (F0 m (pc + 3) ls rest)) : W p l e R s m args below meth c H locs cells slots Q (F0 m pc ls (.int (nI b) :: .int (nI a) :: rest)) :=
  lv_icmp_ne hexec hb hdg ht (fun h => kt fun q => h (by rw [q])) (fun h => kf (nI_inj ha hb' h))
theorem n_icmp_ne_m1 (hexec : p.tables.exec = Jvm.exec) (hb : c.code = cc) {a : Nat} {off : Int} {tgt : Nat} (hdg : decode cc pc = .ok (.if_icmp .ne off, 3)) (ht : (pc : Int) + off = (tgt : Int)) (ha : a < 2 ^ 31)
    (kt : W p l e R s m args below meth c H locs cells slots Q (F0 m tgt ls rest)) : W p l e R s m args below meth c H locs cells slots Q (F0 m pc ls (.int (-1) :: .int (nI a) :: rest)) :=
  lv_icmp_ne hexec hb hdg ht (fun _ => kt) (fun h => absurd h (nI_ne_m1 ha))
theorem n_icmp_ne_mm (hexec : p.tables.exec = Jvm.exec) (hb : c.code = cc) {x : Int32} {off : Int} {tgt : Nat} (hdg : decode cc pc = .ok (.if_icmp .ne off, 3)) (ht : (pc : Int) + off = (tgt : Int))
    (kf : W p l e R s m args below meth c H locs cells slots Q (F0 m (pc + 3) ls rest)) : W p l e R s m args below meth c H locs cells slots Q (F0 m pc ls (.int x :: .int x :: rest)) :=
  lv_icmp_ne hexec hb hdg ht (fun h => absurd rfl h) (fun _ => kf)
theorem n_icmp_eq_m1 (hexec : p.tables.exec = Jvm.exec) (hb : c.code = cc) {a : Nat} {off : Int} {tgt : Nat} (hdg : decode cc pc = .ok (.if_icmp .eq off, 3)) (ht : (pc : Int) + off = (tgt : Int)) (ha : a < 2 ^ 31)
    (kf : W p l e R s m args below meth c H locs cells slots Q (F0 m (pc + 3) ls rest)) : W p l e R s m args below meth c H locs cells slots Q (F0 m pc ls (.int (-1) :: .int (nI a) :: rest)) :=
  lv_icmp_eq hexec hb hdg ht (fun h => absurd h (nI_ne_m1 ha)) (fun _ => kf)
theorem n_if_lt (hexec : p.tables.exec = Jvm.exec) (hb : c.code = cc) {a : Nat} {off : Int} {tgt : Nat} (hdg : decode cc pc = .ok (.ifCond .lt off, 3)) (ht : (pc : Int) + off = (tgt : Int)) (ha : a < 2 ^ 31)
    (kf : W p l e R s m args below meth c H locs cells slots Q (F0 m (pc + 3) ls rest)) : W p l e R s m args below meth c H locs cells slots Q (F0 m pc ls (.int (nI a) :: rest)) :=
  lv_if_lt hexec hb hdg ht (fun h => absurd h (nI_pos ha)) (fun _ => kf)
theorem n_if_le (hexec : p.tables.exec = Jvm.exec) (hb : c.code = cc) {a : Nat} {off : Int} {tgt : Nat} (hdg : decode cc pc = .ok (.ifCond .le off, 3)) (ht : (pc : Int) + off = (tgt : Int)) (ha : a < 2 ^ 31)
    (kt : a = 0 → W p l e R s m args below meth c H locs cells slots Q (F0 m tgt ls rest)) (kf : 0 < a → W p l e R s m args below meth c H locs cells slots Q (F0 m (pc + 3) ls rest)) : W p l e R s m args below meth c H locs cells slots Q (F0 m pc ls (.int (nI a) :: rest)) :=
  lv_if_le hexec hb hdg ht (fun h => kt (Nat.eq_zero_of_not_pos fun q => nI_nle q ha h)) (fun h => kf (Nat.pos_of_ne_zero fun q => h (by subst q; decide)))
theorem n_if_eq (hexec : p.tables.exec = Jvm.exec) (hb : c.code = cc) {a : Nat} {off : Int} {tgt : Nat} (hdg : decode cc pc = .ok (.ifCond .eq off, 3)) (ht : (pc : Int) + off = (tgt : Int)) (ha : a < 2 ^ 31)
    (kt : a = 0 → W p l e R s m args below meth c H locs cells slots Q (F0 m tgt ls rest)) (kf : 0 < a → W p l e R s m args below meth c H locs cells slots Q (F0 m (pc + 3) ls rest)) : W p l e R s m args below meth c H locs cells slots Q (F0 m pc ls (.int (nI a) :: rest)) :=
  lv_if_eq hexec hb hdg ht (fun h => kt (Nat.eq_zero_of_not_pos fun q => nI_ne0 q ha h)) (fun h => kf (Nat.pos_of_ne_zero fun q => h (by subst q; decide)))
theorem n_if_ne (hexec : p.tables.exec = Jvm.exec) (hb : c.code = cc) {a : Nat} {off : Int} {tgt : Nat} (hdg : decode cc pc = .ok (.ifCond .ne off, 3)) (ht : (pc : Int) + off = (tgt : Int)) (ha : a < 2 ^ 31)
    (kt : 0 < a → W p l e R s m args below meth c H locs cells slots Q (F0 m tgt ls rest)) (kf : a = 0 → W p l e R s m args below meth c H locs cells slots Q (F0 m (pc + 3) ls rest)) : W p l e R s m args below meth c H locs cells slots Q (F0 m pc ls (.int (nI a) :: rest)) :=
  lv_if_ne hexec hb hdg ht (fun h => kt (Nat.pos_of_ne_zero fun q => h (by subst q; decide))) (fun h => kf (Nat.eq_zero_of_not_pos fun q => nI_ne0 q ha h))
theorem b_if_eq (hexec : p.tables.exec = Jvm.exec) (hb : c.code = cc) {b : Bool} {off : Int} {tgt : Nat} (hdg : decode cc pc = .ok (.ifCond .eq off, 3)) (ht : (pc : Int) + off = (tgt : Int))
    (kt : b = false → W p l e R s m args below meth c H locs cells slots Q (F0 m tgt ls rest)) (kf : b = true → W p l e R s m args below meth c H locs cells slots Q (F0 m (pc + 3) ls rest)) : W p l e R s m args below meth c H locs cells slots Q (F0 m pc ls (.int (bI b) :: rest)) :=
  lv_if_eq hexec hb hdg ht (fun h => kt (bI_0.mp h)) (fun h => kf (by cases b with | false => exact absurd rfl h | true => rfl))
theorem b_if_ne (hexec : p.tables.exec = Jvm.exec) (hb : c.code = cc) {b : Bool} {off : Int} {tgt : Nat} (hdg : decode cc pc = .ok (.ifCond .ne off, 3)) (ht : (pc : Int) + off = (tgt : Int))
    (kt : b = true → W p l e R s m args below meth c H locs cells slots Q (F0 m tgt ls rest)) (kf : b = false → W p l e R s m args below meth c H locs cells slots Q (F0 m (pc + 3) ls rest)) : W p l e R s m args below meth c H locs cells slots Q (F0 m pc ls (.int (bI b) :: rest)) :=
  lv_if_ne hexec hb hdg ht (fun h => kt (by cases b with | false => exact absurd rfl h | true => rfl)) (fun h => kf (bI_0.mp h))
/-- a value by another name -/
theorem lv_as {x y : Int32} (h : x = y) (k : W p l e R s m args below meth c H locs cells slots Q (F0 m pc ls (.int y :: rest))) : W p l e R s m args below meth c H locs cells slots Q (F0 m pc ls (.int x :: rest)) := by rw [h]; exact k
theorem W.joinI {pc2 : Nat} {st2 : List Value} (J : Int32 → Prop) (kk : (∀ v : Int32, J v → W p l e R s m args below meth c H locs cells slots Q (F0 m pc2 ls (.int v :: st2))) → W p l e R s m args below meth c H locs cells slots Q (F0 m pc ls rest))
    (kj : ∀ v : Int32, J v → W p l e R s m args below meth c H locs cells slots Q (F0 m pc2 ls (.int v :: st2))) : W p l e R s m args below meth c H locs cells slots Q (F0 m pc ls rest) := kk kj
theorem W.joinL {pc2 : Nat} {st2 : List Value} (J : Array Slot → Prop) (kk : (∀ l2 : Array Slot, J l2 → W p l e R s m args below meth c H locs cells slots Q (F0 m pc2 l2 st2)) → W p l e R s m args below meth c H locs cells slots Q (F0 m pc ls rest))
    (kj : ∀ l2 : Array Slot, J l2 → W p l e R s m args below meth c H locs cells slots Q (F0 m pc2 l2 st2)) : W p l e R s m args below meth c H locs cells slots Q (F0 m pc ls rest) := kk kj
theorem W.loop (I : Nat → Array Slot → Prop) (N i0 : Nat) (h0 : i0 ≤ N) (hI : I i0 ls)
    (hs : ∀ (i : Nat) (l2 : Array Slot), i ≤ N → I i l2 → (∀ l3 : Array Slot, i < N → I (i + 1) l3 → W p l e R s m args below meth c H locs cells slots Q (F0 m pc l3 rest)) → W p l e R s m args below meth c H locs cells slots Q (F0 m pc l2 rest)) : W p l e R s m args below meth c H locs cells slots Q (F0 m pc ls rest) := by
  have key : ∀ (n i : Nat) (l2 : Array Slot), i ≤ N → N - i = n → I i l2 → W p l e R s m args below meth c H locs cells slots Q (F0 m pc l2 rest) := by
    intro n
    induction n with
    | zero => intro i l2 hi hn h; exact hs i l2 hi h (fun l3 hlt _ => absurd hlt (by omega))
    | succ n ih => intro i l2 hi hn h; exact hs i l2 hi h (fun l3 hlt h' => ih (i + 1) l3 (by omega) (by omega) h')
  exact key _ i0 ls h0 rfl hI
theorem W.loopH (I : Nat → Heap → List Loc → Array Slot → Prop) (N i0 : Nat) (h0 : i0 ≤ N) (hI : I i0 H locs ls)
    (hs : ∀ (i : Nat) (H2 : Heap) (o2 : List Loc) (l2 : Array Slot), i ≤ N → I i H2 o2 l2 → (∀ (H3 : Heap) (o3 : List Loc) (l3 : Array Slot), i < N → I (i + 1) H3 o3 l3 → W p l e R s m args below meth c H3 o3 cells slots Q (F0 m pc l3 rest)) → W p l e R s m args below meth c H2 o2 cells slots Q (F0 m pc l2 rest)) : W p l e R s m args below meth c H locs cells slots Q (F0 m pc ls rest) := by
  have key : ∀ (n i : Nat) (H2 : Heap) (o2 : List Loc) (l2 : Array Slot), i ≤ N → N - i = n → I i H2 o2 l2 → W p l e R s m args below meth c H2 o2 cells slots Q (F0 m pc l2 rest) := by
    intro n
    induction n with
    | zero => intro i H2 o2 l2 hi hn h; exact hs i H2 o2 l2 hi h (fun H3 o3 l3 hlt _ => absurd hlt (by omega))
    | succ n ih => intro i H2 o2 l2 hi hn h; exact hs i H2 o2 l2 hi h (fun H3 o3 l3 hlt h' => ih (i + 1) H3 o3 l3 (by omega) (by omega) h')
  exact key _ i0 H locs ls h0 rfl hI
-- arrays of ints, the index a number
theorem n_iald (hexec : p.tables.exec = Jvm.exec) (hb : c.code = cc) {D : va_G} {cl : List vw_C} {tys : List (ClassId × FieldType)} {ws : va_W} {a : Nat} (hK : va_K D cl tys s) (hP : va_P D cl ws H) (q0 t0 : Nat) {cA : ClassId} {n : Nat} {f : Nat → Int32} (ha : ws[q0]? = some (a, .inl (cA, n, .inl f))) (ht : tys[t0]? = some (cA, .int)) {k : Nat} (hk : k < n) (hn : n < 2 ^ 31) (hdg : decode cc pc = .ok (.iaload, 1))
    (kk : W p l e R s m args below meth c H locs cells slots Q (F0 m (pc + 1) ls (.int (f k) :: rest))) : W p l e R s m args below meth c H locs cells slots Q (F0 m pc ls (.int (nI k) :: .ref a :: rest)) :=
  va_iald hexec hb hK hP q0 t0 ha ht (vp_in_nI hk hn) hdg (by rw [nI_clamp (Nat.lt_trans hk hn)]; exact kk)
theorem n_zald (hexec : p.tables.exec = Jvm.exec) (hb : c.code = cc) {D : va_G} {cl : List vw_C} {tys : List (ClassId × FieldType)} {ws : va_W} {a : Nat} (hK : va_K D cl tys s) (hP : va_P D cl ws H) (q0 t0 : Nat) {cA : ClassId} {n : Nat} {f : Nat → Int32} (ha : ws[q0]? = some (a, .inl (cA, n, .inl f))) (ht : tys[t0]? = some (cA, .boolean)) {k : Nat} (hk : k < n) (hn : n < 2 ^ 31) (hdg : decode cc pc = .ok (.baload, 1))
    (kk : W p l e R s m args below meth c H locs cells slots Q (F0 m (pc + 1) ls (.int (f k) :: rest))) : W p l e R s m args below meth c H locs cells slots Q (F0 m pc ls (.int (nI k) :: .ref a :: rest)) :=
  va_zald hexec hb hK hP q0 t0 ha ht (vp_in_nI hk hn) hdg (by rw [nI_clamp (Nat.lt_trans hk hn)]; exact kk)
theorem n_iast (hexec : p.tables.exec = Jvm.exec) (hb : c.code = cc) {D : va_G} {cl : List vw_C} {tys : List (ClassId × FieldType)} {ws : va_W} {A : Nat → Prop} {H0 : Heap} {a : Nat} (hK : va_K D cl tys s) (hP : va_P D cl ws H) (hD : va_D A ws) (hS : va_S A H0 H locs) (q0 t0 : Nat) {cA : ClassId} {n : Nat} {f : Nat → Int32} (ha : ws[q0]? = some (a, .inl (cA, n, .inl f))) (ht : tys[t0]? = some (cA, .int)) {k : Nat} {x : Int32} (hk : k < n) (hn : n < 2 ^ 31) (hdg : decode cc pc = .ok (.iastore, 1))
    (kk : ∀ (H1 : Heap) (locs1 : List Loc), va_P D cl (ws.set q0 (a, .inl (cA, n, .inl (upd f k x)))) H1 → va_D A (ws.set q0 (a, .inl (cA, n, .inl (upd f k x)))) → va_S A H0 H1 locs1 → W p l e R s m args below meth c H1 locs1 cells slots Q (F0 m (pc + 1) ls rest)) : W p l e R s m args below meth c H locs cells slots Q (F0 m pc ls (.int x :: .int (nI k) :: .ref a :: rest)) :=
  va_iast hexec hb hK hP hD hS q0 t0 ha ht (vp_in_nI hk hn) hdg (by rw [nI_clamp (Nat.lt_trans hk hn)]; exact kk)
theorem n_zast (hexec : p.tables.exec = Jvm.exec) (hb : c.code = cc) {D : va_G} {cl : List vw_C} {tys : List (ClassId × FieldType)} {ws : va_W} {A : Nat → Prop} {H0 : Heap} {a : Nat} (hK : va_K D cl tys s) (hP : va_P D cl ws H) (hD : va_D A ws) (hS : va_S A H0 H locs) (q0 t0 : Nat) {cA : ClassId} {n : Nat} {f : Nat → Int32} (ha : ws[q0]? = some (a, .inl (cA, n, .inl f))) (ht : tys[t0]? = some (cA, .boolean)) {k : Nat} {x : Int32} (hx : vp_nar .boolean x = x) (hk : k < n) (hn : n < 2 ^ 31) (hdg : decode cc pc = .ok (.bastore, 1))
    (kk : ∀ (H1 : Heap) (locs1 : List Loc), va_P D cl (ws.set q0 (a, .inl (cA, n, .inl (upd f k x)))) H1 → va_D A (ws.set q0 (a, .inl (cA, n, .inl (upd f k x)))) → va_S A H0 H1 locs1 → W p l e R s m args below meth c H1 locs1 cells slots Q (F0 m (pc + 1) ls rest)) : W p l e R s m args below meth c H locs cells slots Q (F0 m pc ls (.int x :: .int (nI k) :: .ref a :: rest)) :=
  va_zast hexec hb hK hP hD hS q0 t0 ha ht (vp_in_nI hk hn) hdg (by rw [nI_clamp (Nat.lt_trans hk hn), hx]; exact kk)
end LIBA
end
section
/-! own rows: heads, calls, ends -/
section HEADS
variable {l : Launch} {y : MethodName} {ws ws' : List Cond} {rm : Room} {As : List Value} {B : State → Prop} {cc : ByteArray} {maxL mc ms : Nat} {ret : Option FieldType} {Qc : Array Value → State → Outcome → State → Prop} {XC : String → State → State → Prop} {free : Addr → Prop}
theorem k_head (lv : List (Nat × Value)) (hy : plainName y.cls = true) (hw : ws = Cond.code y cc maxL ret :: ws') (hlen : (lg_sl As).length ≤ maxL) (hlv : lv_args 0 As = lv)
    (body : ∀ (p : Program) (e : Env) (s : State) (m : MethodId) (below : List Frame) (meth : Method) (c : Code) (ls : Array Slot), p.tables.exec = Jvm.exec → c.code = cc → meth.sig.returnType = ret → c.maxLocals = maxL → s.vm.findClass y.cls = some m.cls → (∀ w ∈ ws, w.before As.toArray s = true) → meth.locks = false → meth.name = y.name → B s → lv_has ls maxL lv →
      W p l e rm s m As.toArray below meth c s.heap [] 0 0 (MQ below Qc As.toArray s mc ms free) (F0 m 0 ls [])) : Met l y ws rm (k_P As B) Qc mc ms free := by
  refine Met.ofW (cc := cc) (maxL := maxL) (ret := ret) hy hw ?_
  intro p e s m args below meth c s₁ Bd hml hv
  obtain ⟨rfl, hB⟩ := hv
  rw [lg_entry_eq]
  exact body p e s m below meth c _ Bd.exec Bd.bytes Bd.returns hml (findClass_of_methodNamed Bd.named) (atoms_spec (ws := ws) Bd.pre) Bd.notSynchronized (name_of_methodNamed Bd.named Bd.method).1 hB (hlv ▸ lv_entry As hlen)
theorem k_headX (lv : List (Nat × Value)) (hy : plainName y.cls = true) (hw : ws = Cond.code y cc maxL ret :: ws') (hlen : (lg_sl As).length ≤ maxL) (hlv : lv_args 0 As = lv)
    (body : ∀ (p : Program) (e : Env) (s : State) (m : MethodId) (below : List Frame) (meth : Method) (c : Code) (ls : Array Slot), p.tables.exec = Jvm.exec → c.code = cc → meth.sig.returnType = ret → c.maxLocals = maxL → s.vm.findClass y.cls = some m.cls → (∀ w ∈ ws, w.before As.toArray s = true) → meth.locks = false → (∀ x ∈ c.exceptionTable.toList, False) → B s → lv_has ls maxL lv →
      W p l e rm s m As.toArray below meth c s.heap [] 0 0 (vx_MQ below Qc XC As.toArray s mc ms free) (F0 m 0 ls [])) : vx_Met l y ws rm (k_P As B) Qc XC mc ms free := by
  refine vx_ofW (cc := cc) (maxL := maxL) (ret := ret) hy hw ?_
  intro p e s m args below meth c s₁ Bd hml ht hv
  obtain ⟨rfl, hB⟩ := hv
  rw [lg_entry_eq]
  exact body p e s m below meth c _ Bd.exec Bd.bytes Bd.returns hml (findClass_of_methodNamed Bd.named) (atoms_spec (ws := ws) Bd.pre) Bd.notSynchronized ht hB (hlv ▸ lv_entry As hlen)
end HEADS
section LIBC
variable {p : Program} {l : Launch} {e : Env} {R : Room} {s : State} {m : MethodId} {args : Array Value} {below : List Frame} {meth : Method} {c : Code} {H : Heap} {locs : List Loc} {cells slots : Nat} {Q : State → Prop}
variable {y : MethodName} {bytes cc : ByteArray} {maxL nL n index pc : Nat} {ret : Option FieldType} {ws : List Cond} {rm : Room} {Ts : List Cond} {own C : String} {b : Addr} {As rest st0 : List Value} {ls : Array Slot} {B : State → Prop} {v : Option Value} {mc ms : Nat}
theorem k_go {a : Array Value} (hr : va_Run p l e R s m args below meth c H locs cells slots 0 0 (F0 m pc ls st0) rest (k_Q v a) k_N)
    (kk : W p l e R s m args below meth c H locs cells slots Q (F0 m (pc + 3) ls (v.toList ++ rest))) : W p l e R s m args below meth c H locs cells slots Q (F0 m pc ls st0) := by
  intro T hT X
  obtain ⟨v', st₀, t, T', L, h0, X', hL, e1, e2, ⟨hv, hh⟩, st⟩ := hr T hT X
  cases hv
  have hL0 : L = [] := List.eq_nil_iff_forall_not_mem.mpr (fun q hq => hL q hq)
  subst hL0
  rw [List.append_nil] at X'
  obtain ⟨t2, a1, b1⟩ := kk T' (by rw [e1, hh, h0]) X'
  exact ⟨t2, st t2 a1, b1⟩
theorem k_callS (S : CallFix p m c cc nL s args Ts own) (hM : k_M l y ws rm As B v) (cw : CallB R s args own index y bytes maxL ret ws rm 0 0 n ∧ (Cond.static y).before args s = true)
    (hbl : k_bl B) (hB : ∀ U : State, U.heap = H → s.WarmedH U.vm → B U) (hn : As.length = n) (hsize : ls.size = nL) (hst : st0 = As.reverse ++ rest) (hW : (rest.map fun v => v.category).sum ≤ 8) (hdg : decode cc pc = .ok (.invokestatic index, 3)) (hf : cells ≤ R.cells ∧ slots ≤ R.slots)
    (kk : W p l e R s m args below meth c H locs cells slots Q (F0 m (pc + 3) ls (v.toList ++ rest))) : W p l e R s m args below meth c H locs cells slots Q (F0 m pc ls st0) := by
  subst hst
  exact k_go (va_runS (H := H) (locs := locs) (cells := cells) (slots := slots) (g := F0 m pc ls (As.reverse ++ rest)) (rest := rest) S hM cw ⟨k_P_bl hbl, fun U hU hW => ⟨rfl, hB U hU hW⟩⟩ rfl hn hsize rfl (lv_room hW) hdg hf) kk
theorem k_callV (S : CallFix p m c cc nL s args Ts own) (hM : k_M l y ws rm (.ref b :: As) B v) (cw : CallW R s args own C index y bytes maxL ret ws rm 0 0 n)
    (hbl : k_bl B) (hB : ∀ U : State, U.heap = H → s.WarmedH U.vm → B U) (hrec : ∃ cellB : Cell, H[b]? = some cellB ∧ cellB.vm.isStatics = false ∧ s.vm.findClass C = some cellB.cls) (hn : As.length = n) (hsize : ls.size = nL) (hst : st0 = As.reverse ++ .ref b :: rest) (hW : (rest.map fun v => v.category).sum ≤ 8) (hdg : decode cc pc = .ok (.invokevirtual index, 3)) (hf : cells ≤ R.cells ∧ slots ≤ R.slots)
    (kk : W p l e R s m args below meth c H locs cells slots Q (F0 m (pc + 3) ls (v.toList ++ rest))) : W p l e R s m args below meth c H locs cells slots Q (F0 m pc ls st0) := by
  subst hst
  exact k_go (va_runV (H := H) (locs := locs) (cells := cells) (slots := slots) (g := F0 m pc ls (As.reverse ++ .ref b :: rest)) (rest := rest) S hM cw ⟨k_P_bl hbl, hrec, fun U hU hW => ⟨rfl, hB U hU hW⟩⟩ rfl hn hsize rfl (lv_room hW) hdg hf) kk
theorem k_callSi {x : Int32} (S : CallFix p m c cc nL s args Ts own) (hM : k_M l y ws rm As B (some (.int x))) (cw : CallB R s args own index y bytes maxL ret ws rm 0 0 n ∧ (Cond.static y).before args s = true)
    (hbl : k_bl B) (hB : ∀ U : State, U.heap = H → s.WarmedH U.vm → B U) (hn : As.length = n) (hsize : ls.size = nL) (hst : st0 = As.reverse ++ rest) (hW : (rest.map fun v => v.category).sum ≤ 8) (hdg : decode cc pc = .ok (.invokestatic index, 3)) (hf : cells ≤ R.cells ∧ slots ≤ R.slots)
    (kk : W p l e R s m args below meth c H locs cells slots Q (F0 m (pc + 3) ls (.int x :: rest))) : W p l e R s m args below meth c H locs cells slots Q (F0 m pc ls st0) := k_callS S hM cw hbl hB hn hsize hst hW hdg hf kk
theorem k_callVi {x : Int32} (S : CallFix p m c cc nL s args Ts own) (hM : k_M l y ws rm (.ref b :: As) B (some (.int x))) (cw : CallW R s args own C index y bytes maxL ret ws rm 0 0 n)
    (hbl : k_bl B) (hB : ∀ U : State, U.heap = H → s.WarmedH U.vm → B U) (hrec : ∃ cellB : Cell, H[b]? = some cellB ∧ cellB.vm.isStatics = false ∧ s.vm.findClass C = some cellB.cls) (hn : As.length = n) (hsize : ls.size = nL) (hst : st0 = As.reverse ++ .ref b :: rest) (hW : (rest.map fun v => v.category).sum ≤ 8) (hdg : decode cc pc = .ok (.invokevirtual index, 3)) (hf : cells ≤ R.cells ∧ slots ≤ R.slots)
    (kk : W p l e R s m args below meth c H locs cells slots Q (F0 m (pc + 3) ls (.int x :: rest))) : W p l e R s m args below meth c H locs cells slots Q (F0 m pc ls st0) := k_callV S hM cw hbl hB hrec hn hsize hst hW hdg hf kk
-- a callee that writes its world w, which lies at places of the caller's ws
theorem k_goW {a : Array Value} {S : Type} {D : va_G} {w : va_W} {px : S → Prop} {w' : S → va_W} {ans : S → Option Value} (hr : va_Run p l e R s m args below meth c H locs cells slots mc ms (F0 m pc ls st0) rest (k_WQ D w px w' ans a) (k_A w))
    {A : Nat → Prop} {H0 : Heap} {wc wr : va_W} (hP : va_P D vwCl wc H) (hD : va_D A wc) (hS : va_S A H0 H locs) (isR isC : List Nat) (hmap : (isR ++ isC).map (fun i => wc[i]?) = (wr ++ w).map some) (hnd : va_nd (isR ++ isC) = true) (hm : ∀ u, (w' u).map Prod.fst = w.map Prod.fst)
    (kk : ∀ (u : S) (H1 : Heap) (locs1 : List Loc), px u → va_P D vwCl (wr ++ w' u) H1 → va_D A (wr ++ w' u) → va_S A H0 H1 locs1 → H.size ≤ H1.size → (∀ q : Nat, q < H.size → ¬ k_A w q → H1[q]? = H[q]?) → W p l e R s m args below meth c H1 locs1 (cells + mc) (slots + ms) Q (F0 m (pc + 3) ls ((ans u).toList ++ rest))) : W p l e R s m args below meth c H locs cells slots Q (F0 m pc ls st0) := by
  have hDrw : va_D A (wr ++ w) := hD.sub (isR ++ isC) hnd hmap
  have hPrw : va_P D vwCl (wr ++ w) H := by
    intro k q hk
    have h1 : ((isR ++ isC).map (fun i => wc[i]?))[k]? = some (some q) := by rw [hmap, List.getElem?_map, hk]; rfl
    rw [List.getElem?_map] at h1
    cases hi : (isR ++ isC)[k]? with
    | none => rw [hi] at h1; cases h1
    | some i => rw [hi] at h1; exact hP i q (Option.some.inj h1)
  have hAA : ∀ q, k_A w q → A q := by
    rintro q ⟨k, e, hk⟩
    have h1 : (wr ++ w)[wr.length + k]? = some (q, e) := by rw [List.getElem?_append_right (Nat.le_add_right _ _), Nat.add_sub_cancel_left]; exact hk
    exact hDrw.2 _ _ h1
  intro T hT X
  obtain ⟨v', st₀, t, T', L, h0, X', hL, e1, e2, ⟨u, hp, hv, hP1, hF⟩, st⟩ := hr T hT X
  cases hv
  obtain ⟨k1, k2, k3⟩ := vx_keep h0 e1 hS (fun q _ h => hAA q h) hAA hL hF
  have hPr : va_P D vwCl wr T'.heap := by
    intro k q hk
    have h1 : (wr ++ w)[k]? = some q := by
      have hlt : k < wr.length := (List.getElem?_eq_some_iff.mp hk).1
      rw [List.getElem?_append_left hlt]; exact hk
    have h2 := hPrw k q h1
    refine h2.kept (k2 q.1 h2.lt ?_)
    rintro ⟨j, e, hj⟩
    have h3 : (wr ++ w)[wr.length + j]? = some (q.1, e) := by rw [List.getElem?_append_right (Nat.le_add_right _ _), Nat.add_sub_cancel_left]; exact hj
    have h4 := hDrw.1 k (wr.length + j) q (q.1, e) h1 h3 rfl
    have hlt : k < wr.length := (List.getElem?_eq_some_iff.mp hk).1
    omega
  have hP2 : va_P D vwCl (wr ++ w' u) T'.heap := va_P.app hPr (by rw [e1]; exact hP1)
  have hD2 : va_D A (wr ++ w' u) := k_D_map (w := wr ++ w) (by rw [List.map_append, List.map_append, hm u]) hDrw
  obtain ⟨t2, a1, b1⟩ := kk u T'.heap (locs ++ L) hp hP2 hD2 k3 k1 k2 T' rfl X'
  exact ⟨t2, st t2 a1, b1⟩
theorem k_callVW {S : Type} {D : va_G} {w : va_W} {px : S → Prop} {w' : S → va_W} {ans : S → Option Value} (F : CallFix p m c cc nL s args Ts own) (hM : Met l y ws rm (k_P (.ref b :: As) B) (k_WQ D w px w' ans) mc ms (k_A w)) (cw : CallW R s args own C index y bytes maxL ret ws rm mc ms n)
    (hbl : k_bl B) (hB : ∀ U : State, U.heap = H → s.WarmedH U.vm → B U) (hrec : ∃ cellB : Cell, H[b]? = some cellB ∧ cellB.vm.isStatics = false ∧ s.vm.findClass C = some cellB.cls) (hn : As.length = n) (hsize : ls.size = nL) (hst : st0 = As.reverse ++ .ref b :: rest) (hW : (rest.map fun v => v.category).sum ≤ 8) (hdg : decode cc pc = .ok (.invokevirtual index, 3)) (hf : cells + mc ≤ R.cells ∧ slots + ms ≤ R.slots)
    {A : Nat → Prop} {H0 : Heap} {wc wr : va_W} (hP : va_P D vwCl wc H) (hD : va_D A wc) (hS : va_S A H0 H locs) (isR isC : List Nat) (hmap : (isR ++ isC).map (fun i => wc[i]?) = (wr ++ w).map some) (hnd : va_nd (isR ++ isC) = true) (hm : ∀ u, (w' u).map Prod.fst = w.map Prod.fst)
    (kk : ∀ (u : S) (H1 : Heap) (locs1 : List Loc), px u → va_P D vwCl (wr ++ w' u) H1 → va_D A (wr ++ w' u) → va_S A H0 H1 locs1 → H.size ≤ H1.size → (∀ q : Nat, q < H.size → ¬ k_A w q → H1[q]? = H[q]?) → W p l e R s m args below meth c H1 locs1 (cells + mc) (slots + ms) Q (F0 m (pc + 3) ls ((ans u).toList ++ rest))) : W p l e R s m args below meth c H locs cells slots Q (F0 m pc ls st0) := by
  subst hst
  exact k_goW (va_runV (H := H) (locs := locs) (cells := cells) (slots := slots) (g := F0 m pc ls (As.reverse ++ .ref b :: rest)) (rest := rest) F hM cw ⟨k_P_bl hbl, hrec, fun U hU hW => ⟨rfl, hB U hU hW⟩⟩ rfl hn hsize rfl (lv_room hW) hdg hf) hP hD hS isR isC hmap hnd hm kk
theorem k_callSW {S : Type} {D : va_G} {w : va_W} {px : S → Prop} {w' : S → va_W} {ans : S → Option Value} (F : CallFix p m c cc nL s args Ts own) (hM : Met l y ws rm (k_P As B) (k_WQ D w px w' ans) mc ms (k_A w)) (cw : CallB R s args own index y bytes maxL ret ws rm mc ms n ∧ (Cond.static y).before args s = true)
    (hbl : k_bl B) (hB : ∀ U : State, U.heap = H → s.WarmedH U.vm → B U) (hn : As.length = n) (hsize : ls.size = nL) (hst : st0 = As.reverse ++ rest) (hW : (rest.map fun v => v.category).sum ≤ 8) (hdg : decode cc pc = .ok (.invokestatic index, 3)) (hf : cells + mc ≤ R.cells ∧ slots + ms ≤ R.slots)
    {A : Nat → Prop} {H0 : Heap} {wc wr : va_W} (hP : va_P D vwCl wc H) (hD : va_D A wc) (hS : va_S A H0 H locs) (isR isC : List Nat) (hmap : (isR ++ isC).map (fun i => wc[i]?) = (wr ++ w).map some) (hnd : va_nd (isR ++ isC) = true) (hm : ∀ u, (w' u).map Prod.fst = w.map Prod.fst)
    (kk : ∀ (u : S) (H1 : Heap) (locs1 : List Loc), px u → va_P D vwCl (wr ++ w' u) H1 → va_D A (wr ++ w' u) → va_S A H0 H1 locs1 → H.size ≤ H1.size → (∀ q : Nat, q < H.size → ¬ k_A w q → H1[q]? = H[q]?) → W p l e R s m args below meth c H1 locs1 (cells + mc) (slots + ms) Q (F0 m (pc + 3) ls ((ans u).toList ++ rest))) : W p l e R s m args below meth c H locs cells slots Q (F0 m pc ls st0) := by
  subst hst
  exact k_goW (va_runS (H := H) (locs := locs) (cells := cells) (slots := slots) (g := F0 m pc ls (As.reverse ++ rest)) (rest := rest) F hM cw ⟨k_P_bl hbl, fun U hU hW => ⟨rfl, hB U hU hW⟩⟩ rfl hn hsize rfl (lv_room hW) hdg hf) hP hD hS isR isC hmap hnd hm kk
-- ends
theorem k_iret {x y0 : Int32} (hx : p.tables.exec = Jvm.exec) (hb : c.code = cc) (hr : meth.sig.returnType = some .int) (hlocks : meth.locks = false) (hdg : decode cc pc = .ok (.ireturn, 1)) (hv : x = y0) : W p l e R s m args below meth c s.heap [] 0 0 (MQ below (k_Q (some (.int y0))) args s 0 0 k_N) (F0 m pc ls [.int x]) := by
  subst hv
  exact W.iret hx hb hr (fun t ht hW => ⟨rfl, ht⟩) (fun q hq => nomatch hq) hdg hlocks
theorem k_zret {x : Int32} {b0 : Bool} (hx : p.tables.exec = Jvm.exec) (hb : c.code = cc) (hr : meth.sig.returnType = some .boolean) (hlocks : meth.locks = false) (hdg : decode cc pc = .ok (.ireturn, 1)) (hv : x = bI b0) : W p l e R s m args below meth c s.heap [] 0 0 (MQ below (k_Q (some (.int (bI b0)))) args s 0 0 k_N) (F0 m pc ls [.int x]) := by
  subst hv
  exact W.zret hx hb hr (bI_nar b0) (fun t ht hW => ⟨rfl, ht⟩) (fun q hq => nomatch hq) hdg hlocks
theorem k_vretC {Cp : Prop} (hx : p.tables.exec = Jvm.exec) (hb : c.code = cc) (hr : meth.sig.returnType = none) (hlocks : meth.locks = false) (hdg : decode cc pc = .ok (.return_, 1)) (hc : Cp) {px : String → Prop} (h1 : cells ≤ mc) (h2 : slots ≤ ms) : W p l e R s m args below meth c s.heap [] cells slots (vx_MQ below (k_CQ none Cp) (k_XC px) args s mc ms k_N) (F0 m pc ls []) := by
  refine W.widen (k := mc) (n := ms) h1 h2 (vx_ret ?_)
  exact W.vret hx hb hr (fun t ht hW => ⟨rfl, ht, hc⟩) (fun q hq => nomatch hq) hdg hlocks
theorem k_wiret {S : Type} {D : va_G} {w : va_W} {px : S → Prop} {w' : S → va_W} {ans : S → Option Value} (u : S) {x : Int32} (hx : p.tables.exec = Jvm.exec) (hb : c.code = cc) (hr : meth.sig.returnType = some .int) (hlocks : meth.locks = false) (hdg : decode cc pc = .ok (.ireturn, 1)) (hp : px u) (ha : ans u = some (.int x)) (hP : va_P D vwCl (w' u) H) (hS : va_S (k_A w) s.heap H locs) (h1 : cells ≤ mc) (h2 : slots ≤ ms) : W p l e R s m args below meth c H locs cells slots (MQ below (k_WQ D w px w' ans) args s mc ms (k_A w)) (F0 m pc ls [.int x]) := by
  refine W.widen (k := mc) (n := ms) h1 h2 ?_
  exact W.iret hx hb hr (fun t ht hW => ⟨u, hp, by rw [ha], by rw [ht]; exact hP, hS.F ht⟩) hS.2.2 hdg hlocks
theorem k_wzret {S : Type} {D : va_G} {w : va_W} {px : S → Prop} {w' : S → va_W} {ans : S → Option Value} (u : S) {x : Int32} (b0 : Bool) (hx : p.tables.exec = Jvm.exec) (hb : c.code = cc) (hr : meth.sig.returnType = some .boolean) (hlocks : meth.locks = false) (hdg : decode cc pc = .ok (.ireturn, 1)) (hv : x = bI b0) (hp : px u) (ha : ans u = some (.int x)) (hP : va_P D vwCl (w' u) H) (hS : va_S (k_A w) s.heap H locs) (h1 : cells ≤ mc) (h2 : slots ≤ ms) : W p l e R s m args below meth c H locs cells slots (MQ below (k_WQ D w px w' ans) args s mc ms (k_A w)) (F0 m pc ls [.int x]) := by
  refine W.widen (k := mc) (n := ms) h1 h2 ?_
  exact W.zret hx hb hr (by rw [hv]; exact bI_nar b0) (fun t ht hW => ⟨u, hp, by rw [ha], by rw [ht]; exact hP, hS.F ht⟩) hS.2.2 hdg hlocks
theorem k_wlret {S : Type} {D : va_G} {w : va_W} {px : S → Prop} {w' : S → va_W} {ans : S → Option Value} (u : S) {x : Int64} (hx : p.tables.exec = Jvm.exec) (hb : c.code = cc) (hr : meth.sig.returnType = some .long) (hlocks : meth.locks = false) (hdg : decode cc pc = .ok (.lreturn, 1)) (hp : px u) (ha : ans u = some (.long x)) (hP : va_P D vwCl (w' u) H) (hS : va_S (k_A w) s.heap H locs) (h1 : cells ≤ mc) (h2 : slots ≤ ms) : W p l e R s m args below meth c H locs cells slots (MQ below (k_WQ D w px w' ans) args s mc ms (k_A w)) (F0 m pc ls [.long x]) := by
  refine W.widen (k := mc) (n := ms) h1 h2 ?_
  exact W.lret hx hb hr (fun t ht hW => ⟨u, hp, by rw [ha], by rw [ht]; exact hP, hS.F ht⟩) hS.2.2 hdg hlocks
theorem k_wvret {S : Type} {D : va_G} {w : va_W} {px : S → Prop} {w' : S → va_W} {ans : S → Option Value} (u : S) (hx : p.tables.exec = Jvm.exec) (hb : c.code = cc) (hr : meth.sig.returnType = none) (hlocks : meth.locks = false) (hdg : decode cc pc = .ok (.return_, 1)) (hp : px u) (ha : ans u = none) (hP : va_P D vwCl (w' u) H) (hS : va_S (k_A w) s.heap H locs) (h1 : cells ≤ mc) (h2 : slots ≤ ms) : W p l e R s m args below meth c H locs cells slots (MQ below (k_WQ D w px w' ans) args s mc ms (k_A w)) (F0 m pc ls []) := by
  refine W.widen (k := mc) (n := ms) h1 h2 ?_
  exact W.vret hx hb hr (fun t ht hW => ⟨u, hp, by rw [ha], by rw [ht]; exact hP, hS.F ht⟩) hS.2.2 hdg hlocks
end LIBC
end
section
/-! plain facts on numbers and arrays, to paste: each family by itself; over the kit's rows on nI and upd -/
/-! ===== order of ints, in all its forms, and through longs ===== -/
theorem fa_lt (a b : Int32) : a < b ↔ a.toInt < b.toInt := Int32.lt_iff_toInt_lt
theorem fa_le (a b : Int32) : a ≤ b ↔ a.toInt ≤ b.toInt := Int32.le_iff_toInt_le
theorem fa_eq (a b : Int32) : a = b ↔ a.toInt = b.toInt := Int32.toInt_inj.symm
theorem fa_lt64 (a b : Int64) : a < b ↔ a.toInt < b.toInt := Int64.lt_iff_toInt_lt
theorem fa_le64 (a b : Int64) : a ≤ b ↔ a.toInt ≤ b.toInt := Int64.le_iff_toInt_le
theorem fa_eq64 (a b : Int64) : a = b ↔ a.toInt = b.toInt := Int64.toInt_inj.symm
/-- a comparison of two ints taken as longs -/
theorem fa_wide_lt (a b : Int32) : a.toInt64 < b.toInt64 ↔ a < b := by rw [fa_lt64, fa_lt, Int32.toInt_toInt64, Int32.toInt_toInt64]
theorem fa_wide_le (a b : Int32) : a.toInt64 ≤ b.toInt64 ↔ a ≤ b := by rw [fa_le64, fa_le, Int32.toInt_toInt64, Int32.toInt_toInt64]
theorem fa_wide_eq (a b : Int32) : a.toInt64 = b.toInt64 ↔ a = b := by rw [fa_eq64, fa_eq, Int32.toInt_toInt64, Int32.toInt_toInt64]
/-- one strict comparison gives all the others -/
theorem fa_of_lt {a b : Int32} (h : a < b) : a ≤ b ∧ ¬ b ≤ a ∧ ¬ b < a ∧ a ≠ b ∧ b ≠ a := by
  rw [fa_lt] at h
  refine ⟨?_, ?_, ?_, ?_, ?_⟩
  · rw [fa_le]; omega
  · rw [fa_le]; omega
  · rw [fa_lt]; omega
  · intro e; rw [fa_eq] at e; omega
  · intro e; rw [fa_eq] at e; omega
theorem fa_of_nlt {a b : Int32} (h : ¬ a < b) : b ≤ a := by
  rw [fa_lt] at h
  rw [fa_le]
  omega
theorem fa_of_nle {a b : Int32} (h : ¬ a ≤ b) : b < a := by
  rw [fa_le] at h
  rw [fa_lt]
  omega
theorem fa_le_ne {a b : Int32} (h : a ≤ b) (h2 : a ≠ b) : a < b := by
  rw [fa_le] at h
  rw [fa_lt]
  have h3 : a.toInt ≠ b.toInt := fun e => h2 ((fa_eq a b).mpr e)
  omega
theorem fa_three (a b : Int32) : a < b ∨ a = b ∨ b < a := by
  rw [fa_lt, fa_lt, fa_eq]
  omega
theorem fa_trans {a b c : Int32} (h : a < b) (h2 : b ≤ c) : a < c := by
  rw [fa_lt] at *
  rw [fa_le] at h2
  omega
/-! ===== small literals as numbers ===== -/
theorem fa_lit (n : Nat) : (OfNat.ofNat n : Int32) = nI n := rfl
theorem fa_litL (n : Nat) : (OfNat.ofNat n : Int64) = lN n := rfl
/-! ===== bits of a number: 'or', masks, one bit ===== -/
theorem fa_and (a b : Nat) : nI a &&& nI b = nI (a &&& b) := by
  apply Int32.toBitVec_inj.1
  show BitVec.ofNat 32 a &&& BitVec.ofNat 32 b = BitVec.ofNat 32 (a &&& b)
  apply BitVec.eq_of_getLsbD_eq
  intro i hi
  simp [hi]
theorem fa_or (a b : Nat) : nI a ||| nI b = nI (a ||| b) := by
  apply Int32.toBitVec_inj.1
  show BitVec.ofNat 32 a ||| BitVec.ofNat 32 b = BitVec.ofNat 32 (a ||| b)
  apply BitVec.eq_of_getLsbD_eq
  intro i hi
  simp [hi]
/-- a remainder by a power of two, as a mask -/
theorem fa_mask (n k : Nat) : nI n &&& nI (2 ^ k - 1) = nI (n % 2 ^ k) := by rw [fa_and, Nat.and_two_pow_sub_one_eq_mod]
/-- 'or' of a high part and a low one that don't meet is their sum -/
theorem fa_or_sum {a k : Nat} (b : Nat) (h : a < 2 ^ k) : nI (2 ^ k * b) ||| nI a = nI (2 ^ k * b + a) := by rw [fa_or, Nat.two_pow_add_eq_or_of_lt h]
/-- one bit, by 'and' with a power of two -/
theorem fa_bit {n j : Nat} (hj : j < 31) : nI n &&& nI (2 ^ j) = 0 ↔ n.testBit j = false := by
  have h2 : (2 : Nat) ^ j < 2 ^ 31 := Nat.pow_lt_pow_right (by decide) hj
  have hle : n &&& 2 ^ j ≤ 2 ^ j := Nat.and_le_right
  have e : n &&& 2 ^ j = 0 ↔ n.testBit j = false := by
    constructor
    · intro h
      have h1 : (n &&& 2 ^ j).testBit j = false := by rw [h]; simp
      rw [Nat.testBit_and] at h1
      first | simpa using h1 | simpa [Nat.testBit_two_pow_self] using h1 | simpa [Nat.testBit_two_pow] using h1
    · intro h
      apply Nat.eq_of_testBit_eq
      intro i
      rw [Nat.testBit_and]
      by_cases hi : j = i
      · subst hi; simp [h]
      · first | (simp [Nat.testBit_two_pow, hi]; done) | (simp [Nat.testBit_two_pow_of_ne hi]; done)
  rw [fa_and]
  constructor
  · intro h
    apply e.mp
    rcases Nat.eq_zero_or_pos (n &&& 2 ^ j) with z | z
    · exact z
    · exact absurd h (nI_ne0 z (Nat.lt_of_le_of_lt hle h2))
  · intro h
    rw [e.mpr h]; exact nI_0
/-- a remainder by a power of two of a number that isn't negative, as Java divides -/
theorem fa_rem {a k : Nat} (ha : a < 2 ^ 31) (hk : k < 31) : nI a - nI a / nI (2 ^ k) * nI (2 ^ k) = nI (a % 2 ^ k) := pk_rem ha (Nat.two_pow_pos k) (Nat.pow_lt_pow_right (by decide) hk)
/-! ===== cuts to a byte, a short ===== -/
theorem fa_byte_xor (x y : Int32) : (x ^^^ y).toInt8 = x.toInt8 ^^^ y.toInt8 := by
  apply Int8.toBitVec_inj.1
  apply BitVec.eq_of_getLsbD_eq
  intro i hi
  first | (simp [hi]; done) | (simp [hi, BitVec.getLsbD_setWidth, BitVec.getLsbD_signExtend]; done)
theorem fa_short_xor (x y : Int32) : (x ^^^ y).toInt16 = x.toInt16 ^^^ y.toInt16 := by
  apply Int16.toBitVec_inj.1
  apply BitVec.eq_of_getLsbD_eq
  intro i hi
  first | (simp [hi]; done) | (simp [hi, BitVec.getLsbD_setWidth, BitVec.getLsbD_signExtend]; done)
/-- the cut to a byte sees the low byte alone -/
theorem fa_byte_low (x : Int32) : (x &&& 255).toInt8 = x.toInt8 := by
  apply Int8.toBitVec_inj.1
  apply BitVec.eq_of_getLsbD_eq
  intro i hi
  have h2 : (255 : Int32).toBitVec.getLsbD i = true := by
    have : ∀ j : Fin 8, (255 : Int32).toBitVec.getLsbD j.val = true := by decide +kernel
    exact this ⟨i, hi⟩
  have h4 : (x &&& 255).toBitVec.getLsbD i = x.toBitVec.getLsbD i := by
    show (x.toBitVec &&& (255 : Int32).toBitVec).getLsbD i = _
    rw [BitVec.getLsbD_and, h2, Bool.and_true]
  have h3 : i < 32 := by omega
  first
    | (show (((x &&& 255).toBitVec).signExtend 8).getLsbD i = (x.toBitVec.signExtend 8).getLsbD i; rw [BitVec.getLsbD_signExtend, BitVec.getLsbD_signExtend, if_pos h3, if_pos h3, h4])
    | (show (((x &&& 255).toBitVec).setWidth 8).getLsbD i = (x.toBitVec.setWidth 8).getLsbD i; rw [BitVec.getLsbD_setWidth, BitVec.getLsbD_setWidth, h4])
    | (simp [hi, h3, h4]; done)
theorem fa_short_low (x : Int32) : (x &&& 65535).toInt16 = x.toInt16 := by
  apply Int16.toBitVec_inj.1
  apply BitVec.eq_of_getLsbD_eq
  intro i hi
  have h2 : (65535 : Int32).toBitVec.getLsbD i = true := by
    have : ∀ j : Fin 16, (65535 : Int32).toBitVec.getLsbD j.val = true := by decide +kernel
    exact this ⟨i, hi⟩
  have h4 : (x &&& 65535).toBitVec.getLsbD i = x.toBitVec.getLsbD i := by
    show (x.toBitVec &&& (65535 : Int32).toBitVec).getLsbD i = _
    rw [BitVec.getLsbD_and, h2, Bool.and_true]
  have h3 : i < 32 := by omega
  first
    | (show (((x &&& 65535).toBitVec).signExtend 16).getLsbD i = (x.toBitVec.signExtend 16).getLsbD i; rw [BitVec.getLsbD_signExtend, BitVec.getLsbD_signExtend, if_pos h3, if_pos h3, h4])
    | (show (((x &&& 65535).toBitVec).setWidth 16).getLsbD i = (x.toBitVec.setWidth 16).getLsbD i; rw [BitVec.getLsbD_setWidth, BitVec.getLsbD_setWidth, h4])
    | (simp [hi, h3, h4]; done)
/-- a small number is its own byte, its own short -/
theorem fa_byte_small {n : Nat} (h : n < 128) : (nI n).toInt8.toInt32 = nI n := by
  have : ∀ j : Fin 128, (nI j.val).toInt8.toInt32 = nI j.val := by decide +kernel
  exact this ⟨n, h⟩
/-! ===== absolute difference ===== -/
theorem fa_absdiff {a b : Nat} (ha : a < 2 ^ 31) (hb : b < 2 ^ 31) : (if nI a < nI b then nI b - nI a else nI a - nI b) = nI (if a < b then b - a else a - b) := by
  by_cases h : a < b
  · rw [if_pos (nI_lt h hb), if_pos h]
    exact pk_sub (Nat.le_of_lt h)
  · rw [if_neg (nI_nlt (Nat.le_of_not_lt h) ha), if_neg h]
    exact pk_sub (Nat.le_of_not_lt h)
/-! ===== an array behind i stores, a conditional store, a row copied ===== -/
/-- f where k < i, what stood there else -/
def fa_fill {α : Type} (f g : Nat → α) (i : Nat) : Nat → α := fun k => if k < i then f k else g k
theorem fa_fill_0 {α : Type} (f g : Nat → α) : fa_fill f g 0 = g := funext fun k => if_neg (Nat.not_lt_zero k)
theorem fa_fill_in {α : Type} {f g : Nat → α} {i k : Nat} (h : k < i) : fa_fill f g i k = f k := if_pos h
theorem fa_fill_out {α : Type} {f g : Nat → α} {i k : Nat} (h : i ≤ k) : fa_fill f g i k = g k := if_neg (Nat.not_lt.mpr h)
theorem fa_fill_succ (f g : Nat → Int32) (i : Nat) : upd (fa_fill f g i) i (f i) = fa_fill f g (i + 1) := by
  funext k
  by_cases e : k = i
  · subst e
    rw [pk_us]
    exact (if_pos (Nat.lt_succ_self k)).symm
  · rw [pk_un e]
    by_cases h : k < i
    · rw [fa_fill_in h, fa_fill_in (Nat.lt_succ_of_lt h)]
    · rw [fa_fill_out (Nat.le_of_not_lt h), fa_fill_out (by omega)]
/-- a store that changes nothing -/
theorem fa_upd_same {f : Nat → Int32} {i : Nat} {x : Int32} (h : f i = x) : upd f i x = f := by
  funext k
  by_cases e : k = i
  · subst e
    rw [pk_us, h]
  · rw [pk_un e]
/-- a store under a condition, told as one -/
theorem fa_upd_if (c : Prop) [Decidable c] (f : Nat → Int32) (i : Nat) (x : Int32) : (if c then upd f i x else f) = upd f i (if c then x else f i) := by
  by_cases h : c
  · rw [if_pos h, if_pos h]
  · rw [if_neg h, if_neg h, fa_upd_same rfl]
/-- two stores at one place, at two -/
theorem fa_upd_twice (f : Nat → Int32) (i : Nat) (x y : Int32) : upd (upd f i x) i y = upd f i y := by
  funext k
  by_cases e : k = i
  · subst e
    rw [pk_us, pk_us]
  · rw [pk_un e, pk_un e, pk_un e]
theorem fa_upd_swap (f : Nat → Int32) {i j : Nat} (h : i ≠ j) (x y : Int32) : upd (upd f i x) j y = upd (upd f j y) i x := by
  funext k
  by_cases e : k = i
  · subst e
    rw [pk_un h, pk_us, pk_us]
  · by_cases e2 : k = j
    · subst e2
      rw [pk_us, pk_un e, pk_us]
    · rw [pk_un e2, pk_un e, pk_un e, pk_un e2]
/-! ===== the first index with a property; a count ===== -/
/-- the first k < n with p k, n if there is none -/
def fa_first (p : Nat → Bool) : Nat → Nat
  | 0 => 0
  | n + 1 => if fa_first p n < n then fa_first p n else if p n then n else n + 1
theorem fa_first_le (p : Nat → Bool) : ∀ n, fa_first p n ≤ n
  | 0 => Nat.le_refl 0
  | n + 1 => by
    have ih := fa_first_le p n
    unfold fa_first
    split
    · omega
    · split
      · omega
      · omega
theorem fa_first_no (p : Nat → Bool) : ∀ n k, k < fa_first p n → p k = false
  | 0, k, h => absurd h (Nat.not_lt_zero k)
  | n + 1, k, h => by
    have ih := fa_first_no p n
    have hl := fa_first_le p n
    unfold fa_first at h
    split at h
    · exact ih k h
    · rename_i h1
      split at h
      · exact ih k (by omega)
      · rename_i h2
        by_cases e : k = n
        · subst e
          exact Bool.eq_false_iff.mpr h2
        · exact ih k (by omega)
theorem fa_first_yes (p : Nat → Bool) : ∀ n, fa_first p n < n → p (fa_first p n) = true
  | 0, h => absurd h (Nat.not_lt_zero _)
  | n + 1, h => by
    have ih := fa_first_yes p n
    have hl := fa_first_le p n
    unfold fa_first at h ⊢
    split at h
    · rename_i h1
      rw [if_pos h1]
      exact ih h1
    · rename_i h1
      rw [if_neg h1]
      split at h
      · rename_i h2
        rw [if_pos h2]
        exact h2
      · omega
/-- how many k < n have p k -/
def fa_cnt (p : Nat → Bool) : Nat → Nat
  | 0 => 0
  | n + 1 => fa_cnt p n + if p n then 1 else 0
theorem fa_cnt_le (p : Nat → Bool) : ∀ n, fa_cnt p n ≤ n
  | 0 => Nat.le_refl 0
  | n + 1 => by
    have ih := fa_cnt_le p n
    unfold fa_cnt
    split
    · omega
    · omega
theorem fa_cnt_yes {p : Nat → Bool} {n : Nat} (h : p n = true) : fa_cnt p (n + 1) = fa_cnt p n + 1 := by rw [fa_cnt, if_pos h]
theorem fa_cnt_no {p : Nat → Bool} {n : Nat} (h : p n = false) : fa_cnt p (n + 1) = fa_cnt p n := by rw [fa_cnt, if_neg (by rw [h]; decide)]; rfl
theorem fa_cnt_cong {p q : Nat → Bool} : ∀ {n : Nat}, (∀ k, k < n → p k = q k) → fa_cnt p n = fa_cnt q n
  | 0, _ => rfl
  | n + 1, h => by rw [fa_cnt, fa_cnt, fa_cnt_cong (fun k hk => h k (Nat.lt_succ_of_lt hk)), h n (Nat.lt_succ_self n)]
/-! ===== an answer carried into a post; a branch on a boolean answer ===== -/
theorem fa_post {α : Type} {P : α → Prop} {x y : α} (h : x = y) (hp : P y) : P x := h ▸ hp
theorem fa_post2 {α β : Type} {P : α → β → Prop} {x y : α} {u v : β} (h : x = y) (h2 : u = v) (hp : P y v) : P x u := h ▸ h2 ▸ hp
theorem fa_bool {r : Int32} {b : Bool} (h : r = if b then 1 else 0) : (r = 0 ↔ b = false) ∧ (¬ r = 0 ↔ b = true) := by
  subst h
  cases b
  · exact ⟨⟨fun _ => rfl, fun _ => rfl⟩, ⟨fun h => absurd rfl h, fun h => absurd h (by decide)⟩⟩
  · exact ⟨⟨fun h => absurd h (by decide), fun h => absurd h (by decide)⟩, ⟨fun _ => rfl, fun _ => by decide⟩⟩
/-- a boolean's narrowing changes nothing -/
theorem fa_bool_and {r : Int32} (h : r = 0 ∨ r = 1) : r &&& 1 = r := by
  rcases h with rfl | rfl
  · decide
  · decide
theorem fa_bool_prop {c : Prop} [Decidable c] {r : Int32} (h : r = if c then 1 else 0) : (r = 0 ↔ ¬ c) ∧ (¬ r = 0 ↔ c) := by
  subst h
  by_cases hc : c
  · rw [if_pos hc]
    exact ⟨⟨fun h => absurd h (by decide), fun h => absurd hc h⟩, ⟨fun _ => hc, fun _ => by decide⟩⟩
  · rw [if_neg hc]
    exact ⟨⟨fun _ => hc, fun _ => rfl⟩, ⟨fun h => absurd rfl h, fun h => absurd h hc⟩⟩
end
section
/-! rows on bits, shifts and unsigned numbers, to paste: each family out of a closed proof of our own, whole with what it rests on; each by itself clean at Lean in its own claim (generation 39, form 5). Take a family whole -/
/-! ===== Int32 by its bits: bt x i ===== -/
def bt (x : Int32) (i : Nat) : Bool := x.toBitVec.getLsbD i
theorem b_ext {x y : Int32} (h : ∀ i, i < 32 → bt x i = bt y i) : x = y := Int32.toBitVec_inj.mp (BitVec.eq_of_getLsbD_eq (fun i hi => h i hi))
theorem b_or (x y : Int32) (i : Nat) : bt (x ||| y) i = (bt x i || bt y i) := by unfold bt; rw [Int32.toBitVec_or, BitVec.getLsbD_or]
theorem b_and (x y : Int32) (i : Nat) : bt (x &&& y) i = (bt x i && bt y i) := by unfold bt; rw [Int32.toBitVec_and, BitVec.getLsbD_and]
theorem b_xor (x y : Int32) (i : Nat) : bt (x ^^^ y) i = (bt x i ^^ bt y i) := by unfold bt; rw [Int32.toBitVec_xor, BitVec.getLsbD_xor]
theorem b_big {x : Int32} {i : Nat} (h : 32 ≤ i) : bt x i = false := BitVec.getLsbD_of_ge _ _ h
theorem b_255 (i : Nat) : bt 255 i = decide (i < 8) := by
  rcases Nat.lt_or_ge i 32 with h | h
  · exact (by decide +kernel : ∀ i, i < 32 → bt 255 i = decide (i < 8)) i h
  · rw [b_big h, decide_eq_false (by omega)]
theorem b_65535 (i : Nat) : bt 65535 i = decide (i < 16) := by
  rcases Nat.lt_or_ge i 32 with h | h
  · exact (by decide +kernel : ∀ i, i < 32 → bt 65535 i = decide (i < 16)) i h
  · rw [b_big h, decide_eq_false (by omega)]
theorem b_m1 : ∀ i, i < 32 → bt (-1) i = true := by decide +kernel
theorem b_0 (i : Nat) : bt 0 i = false := BitVec.getLsbD_zero
theorem s_l : ∀ n, n < 32 → ((nI n &&& 31).toBitVec.smod 32).toNat = n := by decide +kernel
theorem s_u : ∀ n, n < 32 → (((nI n).toUInt32 &&& Int32.toUInt32 31).toBitVec % 32).toNat = n := by decide +kernel
theorem b_shl (n : Nat) (hn : n < 32) (x : Int32) {i : Nat} (hi : i < 32) : bt (x <<< (nI n &&& 31)) i = (decide (n ≤ i) && bt x (i - n)) := by
  unfold bt
  rw [Int32.toBitVec_shiftLeft]
  show (x.toBitVec <<< ((nI n &&& 31).toBitVec.smod 32).toNat).getLsbD i = _
  rw [s_l n hn, BitVec.getLsbD_shiftLeft]
  rcases Nat.lt_or_ge i n with h | h
  · simp [h, Nat.not_le.mpr h]
  · simp [hi, h, Nat.not_lt.mpr h]
theorem b_ushr (n : Nat) (hn : n < 32) (x : Int32) (i : Nat) : bt ((x.toUInt32 >>> ((nI n).toUInt32 &&& Int32.toUInt32 31)).toInt32) i = bt x (n + i) := by
  show (x.toUInt32 >>> ((nI n).toUInt32 &&& Int32.toUInt32 31)).toBitVec.getLsbD i = x.toUInt32.toBitVec.getLsbD (n + i)
  rw [UInt32.toBitVec_shiftRight]
  show (x.toUInt32.toBitVec >>> (((nI n).toUInt32 &&& Int32.toUInt32 31).toBitVec % 32).toNat).getLsbD i = _
  rw [s_u n hn, BitVec.getLsbD_ushiftRight]
theorem b_sshr (n : Nat) (hn : n < 32) (x : Int32) {i : Nat} (hi : i < 32) : bt (x >>> (nI n &&& 31)) i = if n + i < 32 then bt x (n + i) else bt x 31 := by
  unfold bt
  rw [Int32.toBitVec_shiftRight]
  show (x.toBitVec.sshiftRight ((nI n &&& 31).toBitVec.smod 32).toNat).getLsbD i = _
  rw [s_l n hn, BitVec.getLsbD_sshiftRight, BitVec.msb_eq_getLsbD_last]
  simp [hi]
theorem b_shl8 (x : Int32) {i : Nat} (hi : i < 32) : bt (x <<< ((8 : Int32) &&& 31)) i = (decide (8 ≤ i) && bt x (i - 8)) := b_shl 8 (by omega) x hi
theorem b_shl16 (x : Int32) {i : Nat} (hi : i < 32) : bt (x <<< ((16 : Int32) &&& 31)) i = (decide (16 ≤ i) && bt x (i - 16)) := b_shl 16 (by omega) x hi
theorem b_shl24 (x : Int32) {i : Nat} (hi : i < 32) : bt (x <<< ((24 : Int32) &&& 31)) i = (decide (24 ≤ i) && bt x (i - 24)) := b_shl 24 (by omega) x hi
theorem b_sshr8 (x : Int32) {i : Nat} (hi : i < 32) : bt (x >>> ((8 : Int32) &&& 31)) i = if 8 + i < 32 then bt x (8 + i) else bt x 31 := b_sshr 8 (by omega) x hi
/-! ===== nI under and, xor, >>>, one bit, 65535 ===== -/
theorem nx_and (a b : Nat) : nI a &&& nI b = nI (a &&& b) := by
  apply Int32.toBitVec_inj.1
  show BitVec.ofNat 32 a &&& BitVec.ofNat 32 b = BitVec.ofNat 32 (a &&& b)
  apply BitVec.eq_of_getLsbD_eq
  intro i hi
  simp [hi]
theorem nx_xor (a b : Nat) : nI a ^^^ nI b = nI (a ^^^ b) := by
  apply Int32.toBitVec_inj.1
  show BitVec.ofNat 32 a ^^^ BitVec.ofNat 32 b = BitVec.ofNat 32 (a ^^^ b)
  apply BitVec.eq_of_getLsbD_eq
  intro i hi
  simp [hi]
theorem nx_cnt : ∀ j : Fin 32, (UInt32.ofNat j.val &&& Int32.toUInt32 31).toNat % 32 = j.val := by decide +kernel
theorem nx_ush {k j : Nat} (hk : k < 65536) (hj : j < 32) : ((nI k).toUInt32 >>> ((nI j).toUInt32 &&& Int32.toUInt32 31)).toInt32 = nI (k >>> j) := by
  have hs : k >>> j ≤ k := by
    rw [Nat.shiftRight_eq_div_pow]
    exact Nat.div_le_self _ _
  have e2 : UInt32.ofNat k >>> (UInt32.ofNat j &&& Int32.toUInt32 31) = UInt32.ofNat (k >>> j) := by
    apply UInt32.toNat_inj.1
    have h1 : (UInt32.ofNat k).toNat = k := Nat.mod_eq_of_lt (by omega)
    have h2 : (UInt32.ofNat (k >>> j)).toNat = k >>> j := Nat.mod_eq_of_lt (by omega)
    rw [UInt32.toNat_shiftRight, nx_cnt ⟨j, hj⟩, h1, h2]
  show (UInt32.ofNat k >>> (UInt32.ofNat j &&& Int32.toUInt32 31)).toInt32 = _
  rw [e2]
  rfl
theorem nx_bit {k j : Nat} (hk : k < 65536) (hj : j < 16) : (((nI k).toUInt32 >>> ((nI j).toUInt32 &&& Int32.toUInt32 31)).toInt32 &&& 1) = 0 ↔ k.testBit j = false := by
  rw [nx_ush hk (by omega)]
  show nI (k >>> j) &&& nI 1 = 0 ↔ _
  rw [nx_and, Nat.and_one_is_mod, ← nI_0, nI_eq (by omega) (by omega), Nat.testBit_eq_decide_div_mod_eq, Nat.shiftRight_eq_div_pow, decide_eq_false_iff_not]
  generalize k / 2 ^ j = z
  omega
theorem nx_mod (k : Nat) : nI k &&& 65535 = nI (k % 65536) := by
  show nI k &&& nI 65535 = _
  rw [nx_and, show (65535 : Nat) = 2 ^ 16 - 1 from rfl, Nat.and_two_pow_sub_one_eq_mod]
theorem nx_m16 {k : Nat} (h : k < 65536) : nI k &&& 65535 = nI k := by rw [nx_mod, Nat.mod_eq_of_lt h]
theorem nx_mask (x : Int32) : ∃ k, k < 65536 ∧ x &&& 65535 = nI k := by
  have e : x = nI x.toBitVec.toNat := by
    apply Int32.toBitVec_inj.1
    show x.toBitVec = BitVec.ofNat 32 x.toBitVec.toNat
    simp
  refine ⟨x.toBitVec.toNat % 65536, Nat.mod_lt _ (by omega), ?_⟩
  rw [← nx_mod, ← e]
/-! ===== Int32 as a set of bits: test, set ===== -/
def nf_M (m : Int32) : Nat := 4294967296 - m.toBitVec.toNat
theorem nf_sh : ∀ l, l < 32 → ((1 : Int32) <<< (nI l &&& 31)).toBitVec = BitVec.twoPow 32 l := by decide +kernel
theorem nf_sl : ∀ l, l < 32 → (((nI l).toUInt32 &&& Int32.toUInt32 31).toBitVec % 32).toNat = l := by decide +kernel
theorem nf_tp : ∀ l, l < 32 → BitVec.twoPow 32 l ≠ 0#32 := by decide +kernel
theorem nf_bit (m : Int32) (l : Nat) (hl : l < 32) : ((m.toUInt32 >>> ((nI l).toUInt32 &&& Int32.toUInt32 31)).toInt32 &&& 1) = 0 ↔ (m &&& ((1 : Int32) <<< (nI l &&& 31))) = 0 := by
  have e : ((m.toUInt32 >>> ((nI l).toUInt32 &&& Int32.toUInt32 31)).toInt32).toBitVec = m.toBitVec >>> l := by
    show m.toBitVec >>> (((nI l).toUInt32 &&& Int32.toUInt32 31).toBitVec % 32) = m.toBitVec >>> l
    rw [BitVec.ushiftRight_eq', nf_sl l hl]
  rw [← Int32.toBitVec_inj, ← Int32.toBitVec_inj, Int32.toBitVec_and, Int32.toBitVec_and, nf_sh l hl, e, BitVec.and_twoPow]
  show (m.toBitVec >>> l &&& 1#32) = 0#32 ↔ _ = 0#32
  rw [BitVec.and_one_eq_setWidth_ofBool_getLsbD, BitVec.getLsbD_ushiftRight, Nat.add_zero]
  cases hb : m.toBitVec.getLsbD l
  · exact ⟨fun _ => by simp, fun _ => by decide⟩
  · exact ⟨fun z => absurd z (by decide), fun z => absurd ((if_pos rfl).symm.trans z) (nf_tp l hl)⟩
theorem nf_gr (m k : Int32) (h : m &&& k = 0) (hk : k ≠ 0) : nf_M (m ||| k) < nf_M m := by
  have hm := m.toBitVec.isLt
  have hm' := (m ||| k).toBitVec.isLt
  have h1 : m.toBitVec.toNat ≤ (m ||| k).toBitVec.toNat := by
    rw [Int32.toBitVec_or, BitVec.toNat_or]
    exact Nat.left_le_or
  have h2 : m.toBitVec.toNat ≠ (m ||| k).toBitVec.toNat := by
    intro e
    have e2 : m = m ||| k := Int32.toBitVec_inj.mp (BitVec.eq_of_toNat_eq e)
    apply hk
    apply Int32.toBitVec_inj.mp
    show k.toBitVec = 0#32
    apply BitVec.eq_of_getLsbD_eq
    intro i hi
    have a : m.toBitVec.getLsbD i = (m.toBitVec.getLsbD i || k.toBitVec.getLsbD i) := by rw [← BitVec.getLsbD_or, ← Int32.toBitVec_or, ← e2]
    have b : (m.toBitVec.getLsbD i && k.toBitVec.getLsbD i) = false := by
      rw [← BitVec.getLsbD_and, ← Int32.toBitVec_and, h]
      exact BitVec.getLsbD_zero
    rw [BitVec.getLsbD_zero]
    revert a b
    cases m.toBitVec.getLsbD i <;> cases k.toBitVec.getLsbD i <;> simp
  unfold nf_M
  omega
/-! ===== a byte read unsigned ===== -/
theorem bp_b (x : Int32) : x.toInt8.toInt32 &&& 255 = x &&& 255 := by
  apply Int32.toBitVec_inj.mp
  rw [Int32.toBitVec_and, Int32.toBitVec_and, Int8.toBitVec_toInt32, Int32.toBitVec_toInt8]
  apply BitVec.eq_of_getLsbD_eq
  intro i hi
  rw [BitVec.getLsbD_and, BitVec.getLsbD_and]
  have hm : ∀ i < 32, 8 ≤ i → (255 : Int32).toBitVec.getLsbD i = false := by decide
  rcases Nat.lt_or_ge i 8 with z | z
  · rw [BitVec.getLsbD_signExtend, BitVec.getLsbD_signExtend, if_pos z, if_pos hi]
    simp only [z, hi, decide_true, Bool.true_and]
  · rw [hm i hi z]; simp
/-! ===== the char cast and 65535 ===== -/
/-! ===== Int64 as a set of bits: test, set, clear ===== -/
theorem ts_nf {x : Bool} (h : ¬ x = false) : x = true := by cases x <;> first | rfl | exact absurd rfl h
theorem ts_nt {x : Bool} (h : ¬ x = true) : x = false := by cases x <;> first | rfl | exact absurd rfl h
theorem ts_bit {w : Int64} {s : UInt64} {j : Nat} (hj : j < 64) (hs : s.toNat = j) : ((w.toUInt64 >>> s).toInt64 &&& 1) = 0 ↔ w.toBitVec.getLsbD j = false := by
  have e : (w.toUInt64 >>> s).toInt64.toBitVec = w.toBitVec >>> j := by
    apply BitVec.eq_of_toNat_eq
    show (w.toUInt64 >>> s).toNat = _
    rw [UInt64.toNat_shiftRight, hs, Nat.mod_eq_of_lt hj, BitVec.toNat_ushiftRight]
    rfl
  rw [← Int64.toBitVec_inj, Int64.toBitVec_and, e]
  show w.toBitVec >>> j &&& 1#64 = 0#64 ↔ _
  constructor
  · intro h
    have t := congrArg (fun x => x.getLsbD 0) h
    simpa using t
  · intro h
    apply BitVec.eq_of_getLsbD_eq
    intro i hi
    cases i with
    | zero => simp [h]
    | succ i => simp
theorem ts_or {w m : Int64} {j : Nat} (hj : j < 64) (hm : m.toBitVec = BitVec.twoPow 64 j) : (w ||| m) = w ↔ w.toBitVec.getLsbD j = true := by
  rw [← Int64.toBitVec_inj, Int64.toBitVec_or, hm]
  constructor
  · intro h
    have t := congrArg (fun x => x.getLsbD j) h
    simp only [BitVec.getLsbD_or, BitVec.getLsbD_twoPow] at t
    simpa [hj] using t.symm
  · intro h
    apply BitVec.eq_of_getLsbD_eq
    intro i hi
    rw [BitVec.getLsbD_or, BitVec.getLsbD_twoPow]
    by_cases e : j = i
    · subst e; rw [h, Bool.true_or]
    · simp [e]
theorem ts_and {w m : Int64} {j : Nat} (hj : j < 64) (hm : m.toBitVec = BitVec.twoPow 64 j) : (w &&& (m ^^^ (-1))) = w ↔ w.toBitVec.getLsbD j = false := by
  have ha : (-1 : Int64).toBitVec = BitVec.allOnes 64 := by decide
  rw [← Int64.toBitVec_inj, Int64.toBitVec_and, Int64.toBitVec_xor, hm, ha]
  constructor
  · intro h
    have t := congrArg (fun x => x.getLsbD j) h
    simp only [BitVec.getLsbD_and, BitVec.getLsbD_xor, BitVec.getLsbD_twoPow, BitVec.getLsbD_allOnes] at t
    simpa [hj] using t.symm
  · intro h
    apply BitVec.eq_of_getLsbD_eq
    intro i hi
    rw [BitVec.getLsbD_and, BitVec.getLsbD_xor, BitVec.getLsbD_twoPow, BitVec.getLsbD_allOnes]
    by_cases e : j = i
    · subst e; rw [h, Bool.false_and]
    · simp [e, hi]
/-! ===== lN n to 2^64: shifts, and, or, masks, one bit ===== -/
theorem wb_tb (n : Nat) : (lN n).toBitVec = BitVec.ofNat 64 n := rfl
theorem wb_inj {a b : Int64} (h : a.toBitVec = b.toBitVec) : a = b := Int64.toBitVec_inj.mp h
theorem wb_tn {n : Nat} (h : n < 2 ^ 64) : (lN n).toBitVec.toNat = n := by rw [wb_tb, BitVec.toNat_ofNat, Nat.mod_eq_of_lt h]
theorem wb_of (x : Int64) : ∃ n, n < 2 ^ 64 ∧ x = lN n := ⟨x.toBitVec.toNat, x.toBitVec.isLt, wb_inj (by rw [wb_tb]; simp)⟩
theorem wb_of32 (x : Int32) : ∃ n, n < 2 ^ 32 ∧ x = nI n := ⟨x.toBitVec.toNat, x.toBitVec.isLt, Int32.toBitVec_inj.mp (by show _ = BitVec.ofNat 32 _; simp)⟩
theorem wb_c : ∀ k, k < 64 → ((nI k).toInt64 &&& 63) = lN k := by decide +kernel
theorem wb_cu : ∀ k, k < 64 → ((nI k).toInt64.toUInt64 &&& Int64.toUInt64 63) = UInt64.ofNat k := by decide +kernel
theorem wb_sm : ∀ k, k < 64 → (BitVec.ofNat 64 k).smod 64 = BitVec.ofNat 64 k := by decide +kernel
theorem wb_pw {a b : Nat} (h : a ≤ b) : 2 ^ b = 2 ^ a * 2 ^ (b - a) := by rw [← Nat.pow_add]; congr 1; omega
theorem wb_lt2 {a b : Nat} (h : a < b) : 2 ^ a < 2 ^ b := Nat.pow_lt_pow_right (by decide) h
theorem wb_mod (n : Nat) : lN n = lN (n % 2 ^ 64) := wb_inj (by rw [wb_tb, wb_tb]; apply BitVec.eq_of_toNat_eq; rw [BitVec.toNat_ofNat, BitVec.toNat_ofNat, Nat.mod_mod])
theorem wb_shr {n k : Nat} (hn : n < 2 ^ 64) (hk : k < 64) : ((lN n).toUInt64 >>> ((nI k).toInt64.toUInt64 &&& Int64.toUInt64 63)).toInt64 = lN (n / 2 ^ k) := by
  rw [wb_cu k hk]
  apply wb_inj
  apply BitVec.eq_of_toNat_eq
  show ((lN n).toUInt64 >>> UInt64.ofNat k).toNat = (BitVec.ofNat 64 _).toNat
  have h1 : (UInt64.ofNat k).toNat = k := by
    show (BitVec.ofNat 64 k).toNat = k
    rw [BitVec.toNat_ofNat, Nat.mod_eq_of_lt (by omega)]
  have h2 : (lN n).toUInt64.toNat = n := wb_tn hn
  rw [UInt64.toNat_shiftRight, h1, h2, Nat.mod_eq_of_lt hk, Nat.shiftRight_eq_div_pow, BitVec.toNat_ofNat, Nat.mod_eq_of_lt (Nat.lt_of_le_of_lt (Nat.div_le_self _ _) hn)]
theorem wb_shl (n : Nat) {k : Nat} (hk : k < 64) : lN n <<< ((nI k).toInt64 &&& 63) = lN (n * 2 ^ k) := by
  rw [wb_c k hk]
  apply wb_inj
  rw [Int64.toBitVec_shiftLeft, wb_tb, wb_tb, wb_tb, wb_sm k hk]
  apply BitVec.eq_of_toNat_eq
  rw [BitVec.shiftLeft_eq', BitVec.toNat_shiftLeft, BitVec.toNat_ofNat, BitVec.toNat_ofNat, BitVec.toNat_ofNat, Nat.mod_eq_of_lt (show k < 2 ^ 64 by omega), Nat.shiftLeft_eq, Nat.mul_mod, Nat.mod_mod, ← Nat.mul_mod]
theorem wb_and {a b : Nat} (ha : a < 2 ^ 64) (hb : b < 2 ^ 64) : lN a &&& lN b = lN (a &&& b) := by
  apply wb_inj
  rw [Int64.toBitVec_and, wb_tb, wb_tb, wb_tb]
  apply BitVec.eq_of_toNat_eq
  rw [BitVec.toNat_and, BitVec.toNat_ofNat, BitVec.toNat_ofNat, BitVec.toNat_ofNat, Nat.mod_eq_of_lt ha, Nat.mod_eq_of_lt hb, Nat.mod_eq_of_lt (Nat.and_lt_two_pow _ hb)]
theorem wb_or {a b : Nat} (ha : a < 2 ^ 64) (hb : b < 2 ^ 64) : lN a ||| lN b = lN (a ||| b) := by
  apply wb_inj
  rw [Int64.toBitVec_or, wb_tb, wb_tb, wb_tb]
  apply BitVec.eq_of_toNat_eq
  rw [BitVec.toNat_or, BitVec.toNat_ofNat, BitVec.toNat_ofNat, BitVec.toNat_ofNat, Nat.mod_eq_of_lt ha, Nat.mod_eq_of_lt hb, Nat.mod_eq_of_lt (Nat.or_lt_two_pow ha hb)]
theorem wb_mask {n k : Nat} (hn : n < 2 ^ 64) (hk : k < 64) : lN n &&& lN (2 ^ k - 1) = lN (n % 2 ^ k) := by
  rw [wb_and hn (by have := wb_lt2 hk; omega), Nat.and_two_pow_sub_one_eq_mod]
theorem wb_a1 {n : Nat} (hn : n < 2 ^ 64) : lN n &&& 1 = lN (n % 2) := wb_mask (k := 1) hn (by decide)
theorem wb_bit {n k : Nat} (hn : n < 2 ^ 64) (hk : k < 64) : ((lN n).toUInt64 >>> ((nI k).toInt64.toUInt64 &&& Int64.toUInt64 63)).toInt64 &&& 1 = lN (n / 2 ^ k % 2) := by
  rw [wb_shr hn hk, wb_a1 (Nat.lt_of_le_of_lt (Nat.div_le_self _ _) hn)]
theorem wb_xor {q k : Nat} (hk : k < 63) (h : 2 ^ k ≤ q) (h2 : q < 2 ^ (k + 1)) : lN q ^^^ lN (2 ^ k) = lN (q - 2 ^ k) := by
  obtain ⟨r, rfl⟩ : ∃ r, q = 2 ^ k + r := ⟨q - 2 ^ k, by omega⟩
  have hr : r < 2 ^ k := by rw [Nat.pow_succ] at h2; omega
  have hx : (2 ^ k + r) ^^^ 2 ^ k = r := by
    apply Nat.eq_of_testBit_eq
    intro i
    rw [Nat.testBit_xor, Nat.testBit_two_pow]
    rcases Nat.lt_trichotomy i k with h | h | h
    · rw [Nat.testBit_two_pow_add_gt h]
      simp [show ¬ k = i by omega]
    · subst h
      rw [Nat.testBit_two_pow_add_eq]
      simp
    · have a1 : 2 ^ (k + 1) ≤ 2 ^ i := Nat.pow_le_pow_right (by decide) h
      rw [Nat.testBit_lt_two_pow (show 2 ^ k + r < 2 ^ i by omega), Nat.testBit_lt_two_pow (show r < 2 ^ i by omega)]
      simp [show ¬ k = i by omega]
  have b1 := wb_lt2 (show k + 1 < 64 by omega)
  have b2 := wb_lt2 (show k < 64 by omega)
  apply wb_inj
  rw [Int64.toBitVec_xor, wb_tb, wb_tb, wb_tb]
  apply BitVec.eq_of_toNat_eq
  rw [BitVec.toNat_xor, BitVec.toNat_ofNat, BitVec.toNat_ofNat, BitVec.toNat_ofNat, Nat.mod_eq_of_lt (by omega : 2 ^ k + r < 2 ^ 64), Nat.mod_eq_of_lt b2, hx, Nat.add_sub_cancel_left, Nat.mod_eq_of_lt (by omega)]
/-! ===== lN: masks, 'or' of parts that don't overlap is a sum ===== -/
theorem u_tn {n : Nat} (h : n < 2 ^ 64) : (UInt64.ofNat n).toNat = n := Nat.mod_eq_of_lt h
theorem g_and {a b c : Nat} (ha : a < 2 ^ 64) (hb : b < 2 ^ 64) (hc : a &&& b = c) : lN a &&& lN b = lN c := by
  subst hc
  have h : UInt64.ofNat a &&& UInt64.ofNat b = UInt64.ofNat (a &&& b) := UInt64.toNat_inj.mp (by rw [UInt64.toNat_and, u_tn ha, u_tn hb, u_tn (Nat.and_lt_two_pow a hb)])
  have h2 := congrArg UInt64.toInt64 h
  exact h2
theorem g_and1 {a : Nat} (ha : a < 2 ^ 64) : lN a &&& 1 = lN (a % 2) := g_and (b := 1) ha (by decide) (Nat.and_two_pow_sub_one_eq_mod a 1)
theorem g_mask {a s p : Nat} (hp : 2 ^ s = p) (hs : s < 64) (ha : a < 2 ^ 64) : lN a &&& lN (p - 1) = lN (a % p) := by
  subst hp
  have := Nat.pow_lt_pow_right (show 1 < 2 by decide) hs
  exact g_and ha (by omega) (Nat.and_two_pow_sub_one_eq_mod a s)
theorem g_or {k p a b : Nat} (hp : 2 ^ k = p) (ha : a < p) (h : b * p + a < 2 ^ 64) : lN (b * p) ||| lN a = lN (b * p + a) := by
  subst hp
  have h1 : b * 2 ^ k ||| a = b * 2 ^ k + a := by rw [← Nat.shiftLeft_eq, Nat.shiftLeft_add_eq_or_of_lt ha]
  have h3 : UInt64.ofNat (b * 2 ^ k) ||| UInt64.ofNat a = UInt64.ofNat (b * 2 ^ k + a) := UInt64.toNat_inj.mp (by rw [UInt64.toNat_or, u_tn (by omega), u_tn (by omega), u_tn h, h1])
  have h2 := congrArg UInt64.toInt64 h3
  exact h2
theorem g_or' {k p a b : Nat} (hp : 2 ^ k = p) (ha : a < p) (h : a + b * p < 2 ^ 64) : lN a ||| lN (b * p) = lN (a + b * p) := by
  rw [Int64.or_comm, g_or hp ha (by omega), Nat.add_comm]
theorem g_ushr {a k p : Nat} {y : UInt64} (hy : y = UInt64.ofNat k) (hk : k < 64) (hp : 2 ^ k = p) (ha : a < 2 ^ 64) : ((lN a).toUInt64 >>> y).toInt64 = lN (a / p) := by
  subst hy hp
  have h : UInt64.ofNat a >>> UInt64.ofNat k = UInt64.ofNat (a / 2 ^ k) := UInt64.toNat_inj.mp (by rw [UInt64.toNat_shiftRight, u_tn ha, u_tn (by omega), u_tn (Nat.lt_of_le_of_lt (Nat.div_le_self _ _) ha), Nat.mod_eq_of_lt hk, Nat.shiftRight_eq_div_pow])
  have h2 := congrArg UInt64.toInt64 h
  exact h2
theorem g_shl {a k p : Nat} {y : Int64} (hy : y.toBitVec.smod 64 = BitVec.ofNat 64 k) (hk : k < 64) (hp : 2 ^ k = p) (ha : a < 2 ^ 64) : lN a <<< y = lN (a * p) := by
  subst hp
  apply Int64.toBitVec_inj.mp
  rw [Int64.toBitVec_shiftLeft, hy]
  apply BitVec.eq_of_toNat_eq
  have hb : (lN a).toBitVec.toNat = a := Nat.mod_eq_of_lt ha
  have hk' : (BitVec.ofNat 64 k).toNat = k := Nat.mod_eq_of_lt (by omega)
  have h : ((lN a).toBitVec <<< BitVec.ofNat 64 k).toNat = (a * 2 ^ k) % 2 ^ 64 := by simp only [BitVec.shiftLeft_eq', BitVec.toNat_shiftLeft, hb, hk', Nat.shiftLeft_eq]
  exact h
/-! ===== lN to 2^62 under >> and >>> ===== -/
theorem pf_lI {a : Nat} (h : a < 2 ^ 63) : (lN a).toInt = (a : Int) := lg_ofNat_toInt h
theorem pf_shr {a d : Nat} {D : Int64} (hD : (D.toBitVec.smod 64).toNat = d) (h : a < 2 ^ 62) : lN a >>> D = lN (a / 2 ^ d) := by
  have hd : a / 2 ^ d ≤ a := Nat.div_le_self _ _
  apply Int64.toInt_inj.mp
  have e : (lN a >>> D).toInt = (lN a).toInt >>> d := by
    rw [← hD]
    exact BitVec.toInt_sshiftRight ..
  rw [e, Int.shiftRight_eq_div_pow, pf_lI (by omega), pf_lI (by omega)]
  rfl
theorem pf_ushr {a d : Nat} {D : UInt64} (hD : D.toNat % 64 = d) (h : a < 2 ^ 62) : ((lN a).toUInt64 >>> D).toInt64 = lN (a / 2 ^ d) := by
  have hd : a / 2 ^ d ≤ a := Nat.div_le_self _ _
  have e : (lN a).toUInt64 >>> D = UInt64.ofNat (a / 2 ^ d) := UInt64.toNat_inj.mp (by
    rw [UInt64.toNat_shiftRight, hD, Nat.shiftRight_eq_div_pow, UInt64.toNat_ofNat']
    show (UInt64.ofNat a).toNat / 2 ^ d = _
    rw [UInt64.toNat_ofNat', Nat.mod_eq_of_lt (by omega), Nat.mod_eq_of_lt (by omega)])
  rw [e]
  rfl
theorem pf_andw (x : Int64) : ∃ m, m < 2 ^ 32 ∧ x &&& 4294967295 = lN m := ⟨x.toBitVec.toNat % 2 ^ 32, Nat.mod_lt _ (by decide), Int64.toBitVec_inj.mp (BitVec.eq_of_toNat_eq (by
  show (x.toBitVec &&& 4294967295#64).toNat = (BitVec.ofNat 64 (x.toBitVec.toNat % 2 ^ 32)).toNat
  rw [BitVec.toNat_and, show (4294967295#64).toNat = 2 ^ 32 - 1 from by decide, Nat.and_two_pow_sub_one_eq_mod, BitVec.toNat_ofNat]
  omega))⟩
/-! ===== Int64 as an unsigned number: uN x ===== -/
def uN (x : Int64) : Nat := x.toUInt64.toNat
theorem uN_lt (x : Int64) : uN x < 18446744073709551616 := x.toUInt64.toNat_lt
theorem uN_inj {x y : Int64} (h : uN x = uN y) : x = y := congrArg UInt64.toInt64 (UInt64.toNat_inj.mp h)
theorem uN_add (x y : Int64) : uN (x + y) = (uN x + uN y) % 18446744073709551616 := by
  show (x.toUInt64 + y.toUInt64).toNat = _
  exact UInt64.toNat_add _ _
theorem uN_mul (x y : Int64) : uN (x * y) = (uN x * uN y) % 18446744073709551616 := by
  show (x.toUInt64 * y.toUInt64).toNat = _
  exact UInt64.toNat_mul _ _
theorem uN_shl (x : Int64) : uN (x <<< ((1 : Int32).toInt64 &&& 63)) = (2 * uN x) % 18446744073709551616 := by
  have h : (((1 : Int32).toInt64 &&& 63).toBitVec.smod 64).toNat = 1 := by decide
  show (x.toBitVec <<< (((1 : Int32).toInt64 &&& 63).toBitVec.smod 64).toNat).toNat = _
  rw [h, BitVec.toNat_shiftLeft, Nat.shiftLeft_eq, Nat.mul_comm]
  rfl
theorem uN_shr (x : Int64) (s : UInt64) : uN (x.toUInt64 >>> s).toInt64 = uN x / 2 ^ (s.toNat % 64) := by
  show (x.toUInt64 >>> s).toNat = _
  rw [UInt64.toNat_shiftRight, Nat.shiftRight_eq_div_pow]
  rfl
theorem uN_s32 (x : Int64) : uN (x.toUInt64 >>> ((32 : Int32).toInt64.toUInt64 &&& Int64.toUInt64 63)).toInt64 = uN x / 4294967296 := by
  have h : ((32 : Int32).toInt64.toUInt64 &&& Int64.toUInt64 63).toNat % 64 = 32 := by decide
  rw [uN_shr, h]
theorem uN_s63 (x : Int64) : uN (x.toUInt64 >>> ((63 : Int32).toInt64.toUInt64 &&& Int64.toUInt64 63)).toInt64 = uN x / 9223372036854775808 := by
  have h : ((63 : Int32).toInt64.toUInt64 &&& Int64.toUInt64 63).toNat % 64 = 63 := by decide
  rw [uN_shr, h]
theorem uN_lo (x : Int64) : uN (x &&& 4294967295) = uN x % 4294967296 := by
  show (x.toUInt64 &&& Int64.toUInt64 4294967295).toNat = _
  rw [UInt64.toNat_and]
  exact Nat.and_two_pow_sub_one_eq_mod _ 32
theorem uN_bit (x : Int64) : (x &&& 1) = 0 ↔ uN x % 2 = 0 := by
  have h : uN (x &&& 1) = uN x % 2 := by
    show (x.toUInt64 &&& Int64.toUInt64 1).toNat = _
    rw [UInt64.toNat_and]
    exact Nat.and_two_pow_sub_one_eq_mod _ 1
  rw [← h]
  exact ⟨fun z => by rw [z]; rfl, fun z => uN_inj (z.trans rfl)⟩
theorem uN_or {x y : Int64} (hy : uN y < 2) : uN ((x <<< ((1 : Int32).toInt64 &&& 63)) ||| y) = (2 * uN x) % 18446744073709551616 + uN y := by
  have h1 : uN ((x <<< ((1 : Int32).toInt64 &&& 63)) ||| y) = uN (x <<< ((1 : Int32).toInt64 &&& 63)) ||| uN y := UInt64.toNat_or _ _
  have h2 : (2 * uN x) % 18446744073709551616 = 2 ^ 1 * (uN x % 9223372036854775808) := by omega
  rw [h1, uN_shl, h2]
  exact (Nat.two_pow_add_eq_or_of_lt (i := 1) hy _).symm
theorem nat_xor {a : Nat} (h : a < 18446744073709551616) : a ^^^ 2 ^ 63 = (a + 9223372036854775808) % 18446744073709551616 := by
  have h1 : (a ^^^ 2 ^ 63) % 2 ^ 63 = a % 2 ^ 63 := by rw [Nat.xor_mod_two_pow, Nat.mod_self, Nat.xor_zero]
  have h2 : (a ^^^ 2 ^ 63) / 2 ^ 63 = (a / 2 ^ 63) ^^^ 1 := by rw [Nat.xor_div_two_pow, Nat.div_self (Nat.two_pow_pos 63)]
  have h3 : a / 2 ^ 63 = 0 ∨ a / 2 ^ 63 = 1 := by omega
  generalize a ^^^ 2 ^ 63 = t at h1 h2
  rcases h3 with h3 | h3
  · rw [h3] at h2
    have h2 : t / 2 ^ 63 = 1 := h2
    omega
  · rw [h3] at h2
    have h2 : t / 2 ^ 63 = 0 := h2
    omega
theorem uN_xor (x : Int64) : uN (x ^^^ (-9223372036854775808)) = (uN x + 9223372036854775808) % 18446744073709551616 := by
  rw [← nat_xor (uN_lt x)]
  exact UInt64.toNat_xor _ _
theorem uN_int (x : Int64) : x.toInt = if 2 * uN x < 18446744073709551616 then (uN x : Int) else (uN x : Int) - 18446744073709551616 := BitVec.toInt_eq_toNat_cond _
theorem uN_le (x y : Int64) : (x ^^^ (-9223372036854775808)) ≤ (y ^^^ (-9223372036854775808)) ↔ uN x ≤ uN y := by
  have hx := uN_lt x
  have hy := uN_lt y
  rw [Int64.le_iff_toInt_le, uN_int, uN_int, uN_xor, uN_xor]
  omega
theorem uN_sk (x : Int64) {k : Nat} (hk : k < 64) : uN (x.toUInt64 >>> ((nI k).toInt64.toUInt64 &&& Int64.toUInt64 63)).toInt64 = uN x / 2 ^ k := by
  have h : ((nI k).toInt64.toUInt64 &&& Int64.toUInt64 63).toNat % 64 = k := by
    rw [nI_l (by omega), UInt64.toNat_and]
    have e : (lN k).toUInt64.toNat = k % 2 ^ 64 := rfl
    have e2 : (Int64.toUInt64 63).toNat = 2 ^ 6 - 1 := by decide
    rw [e, e2, Nat.and_two_pow_sub_one_eq_mod]
    omega
  rw [uN_shr, h]
/-! ===== unsigned comparison by xor with the least ===== -/
theorem lN_bv (n : Nat) : (lN n).toBitVec = BitVec.ofNat 64 n := rfl
theorem lN_nat {n : Nat} (h : n < 2 ^ 64) : (lN n).toBitVec.toNat = n := by rw [lN_bv, BitVec.toNat_ofNat]; exact Nat.mod_eq_of_lt h
theorem lN_xor (a b : Nat) : lN a ^^^ lN b = lN (a ^^^ b) := by
  apply Int64.toBitVec_inj.mp; rw [Int64.toBitVec_xor, lN_bv, lN_bv, lN_bv]; apply BitVec.eq_of_getLsbD_eq; intro i hi; simp [BitVec.getLsbD_ofNat, Nat.testBit_xor, hi]
theorem lN_ti {m : Nat} (h : m < 2 ^ 64) : (lN m).toInt = if m < 2 ^ 63 then (m : Int) else (m : Int) - 2 ^ 64 := by
  have c := BitVec.toInt_eq_toNat_cond (lN m).toBitVec
  rw [lN_nat h] at c
  show (lN m).toBitVec.toInt = _
  rw [c]
  split <;> split <;> omega
theorem xor63 {x : Nat} (h : x < 2 ^ 63) : x ^^^ 2 ^ 63 = 2 ^ 63 + x := by
  apply Nat.eq_of_testBit_eq
  intro i
  rw [Nat.testBit_xor, Nat.testBit_two_pow]
  rcases Nat.lt_trichotomy i 63 with z | z | z
  · rw [Nat.testBit_two_pow_add_gt z, decide_eq_false (by omega)]; simp
  · subst z; rw [Nat.testBit_two_pow_add_eq]; simp
  · have hp : 2 ^ 64 ≤ 2 ^ i := Nat.pow_le_pow_right (by decide) z
    rw [Nat.testBit_lt_two_pow (show x < 2 ^ i by omega), Nat.testBit_lt_two_pow (show 2 ^ 63 + x < 2 ^ i by omega), decide_eq_false (by omega)]; rfl
theorem xorS {a : Nat} (h : a < 2 ^ 64) : (lN a ^^^ (-9223372036854775808)).toInt = (a : Int) - 2 ^ 63 := by
  rw [show (-9223372036854775808 : Int64) = lN (2 ^ 63) from by decide +kernel, lN_xor]
  rcases Nat.lt_or_ge a (2 ^ 63) with z | z
  · rw [xor63 z, lN_ti (by omega), if_neg (by omega)]; omega
  · obtain ⟨x, rfl⟩ : ∃ x, a = 2 ^ 63 + x := ⟨a - 2 ^ 63, by omega⟩
    rw [← xor63 (by omega), Nat.xor_assoc, Nat.xor_self, Nat.xor_zero, lN_ti (by omega), if_pos (by omega), xor63 (by omega)]; omega
theorem ultL {a b : Nat} (ha : a < 2 ^ 64) (hb : b < 2 ^ 64) : ((lN b ^^^ (-9223372036854775808)) ≤ (lN a ^^^ (-9223372036854775808))) ↔ b ≤ a := by
  rw [Int64.le_iff_toInt_le, xorS ha, xorS hb]; omega
/-! ===== Int64 masks of n low bits ===== -/
theorem cr_bits (W U M : BitVec 64) : ((W &&& U) &&& (U &&& (M ^^^ BitVec.allOnes 64))) = 0#64 ↔ (W &&& U) &&& M = W &&& U := by
  constructor
  · intro h
    apply BitVec.eq_of_getLsbD_eq
    intro i hi
    have e := congrArg (fun x => BitVec.getLsbD x i) h
    simp only [BitVec.getLsbD_and, BitVec.getLsbD_xor, BitVec.getLsbD_allOnes, BitVec.getLsbD_zero, hi, decide_true] at e ⊢
    revert e
    cases W.getLsbD i <;> cases U.getLsbD i <;> cases M.getLsbD i <;> decide
  · intro h
    apply BitVec.eq_of_getLsbD_eq
    intro i hi
    have e := congrArg (fun x => BitVec.getLsbD x i) h
    simp only [BitVec.getLsbD_and, BitVec.getLsbD_xor, BitVec.getLsbD_allOnes, BitVec.getLsbD_zero, hi, decide_true] at e ⊢
    revert e
    cases W.getLsbD i <;> cases U.getLsbD i <;> cases M.getLsbD i <;> decide
theorem cr_mask (w U m : Int64) (n : Nat) (hm : m.toBitVec.toNat = 2 ^ n - 1) : ((w &&& U) &&& (U &&& (m ^^^ (-1)))) = 0 ↔ (w &&& U).toBitVec.toNat < 2 ^ n := by
  have e0 : (-1 : Int64).toBitVec = BitVec.allOnes 64 := by decide
  have z0 : (0 : Int64).toBitVec = 0#64 := by decide
  rw [← Int64.toBitVec_inj, z0, Int64.toBitVec_and, Int64.toBitVec_and, Int64.toBitVec_and, Int64.toBitVec_xor, e0, cr_bits]
  generalize w.toBitVec &&& U.toBitVec = T
  rw [← BitVec.toNat_inj, BitVec.toNat_and, hm, Nat.and_two_pow_sub_one_eq_mod]
  constructor
  · intro h
    have t := Nat.mod_lt T.toNat (Nat.two_pow_pos n)
    rw [h] at t
    exact t
  · exact Nat.mod_eq_of_lt
theorem cr_shr (t : Int64) (x : UInt64) (n : Nat) (hx : x.toNat % 64 = n) : (t.toUInt64 >>> x).toInt64 = 0 ↔ t.toBitVec.toNat < 2 ^ n := by
  rw [← Int64.toBitVec_inj, ← BitVec.toNat_inj]
  show (t.toUInt64 >>> x).toNat = 0 ↔ t.toUInt64.toNat < 2 ^ n
  rw [UInt64.toNat_shiftRight, hx, Nat.shiftRight_eq_div_pow]
  constructor
  · intro h
    have d : t.toUInt64.toNat / 2 ^ n < 1 := by
      rw [h]
      decide
    have e := (Nat.div_lt_iff_lt_mul (Nat.two_pow_pos n)).mp d
    rw [Nat.one_mul] at e
    exact e
  · exact Nat.div_eq_of_lt
theorem cr_amt (s : Int64) : ∃ n, n < 64 ∧ s &&& 63 = lN n ∧ (s.toUInt64 &&& Int64.toUInt64 63).toNat % 64 = n := by
  have e : (s.toUInt64 &&& Int64.toUInt64 63).toNat = s.toUInt64.toNat % 2 ^ 6 := by
    rw [UInt64.toNat_and, show (Int64.toUInt64 63).toNat = 2 ^ 6 - 1 from by decide, Nat.and_two_pow_sub_one_eq_mod]
  refine ⟨s.toUInt64.toNat % 2 ^ 6, by omega, ?_, by omega⟩
  rw [← Int64.toBitVec_inj, ← BitVec.toNat_inj]
  show (s.toUInt64 &&& Int64.toUInt64 63).toNat = (BitVec.ofNat 64 (s.toUInt64.toNat % 2 ^ 6)).toNat
  rw [e, BitVec.toNat_ofNat]
  omega
end
section
/-! the pure functions: what the methods answer -/
def dr (a b : Nat) : Int32 := if a < b then nI 1 else if b < a then (-1) else nI 0
def dist (a b : Nat) : Nat := if a < b then b - a else a - b
def lcB (fx fy sx sy : Int32) (k : Nat) : Int32 := nI 1 <<< ((((fy + nI k * sy) * nI 5 + fx) + nI k * sx) &&& 31)
def lcF (fx fy sx sy : Int32) : Nat → Int32
  | 0 => nI 0
  | k + 1 => lcF fx fy sx sy k ||| lcB fx fy sx sy k
def lnN (a b c d : Nat) : Nat := max (dist a c) (dist b d) + 1
def colm (x : Nat) : Int32 := lcF (nI x) (nI 0) (dr x x) (dr 0 4) (lnN x 0 x 4)
def hcC (s : Int32) (x : Nat) : Bool := !decide (s &&& colm x = 0)
def bitI (s : Int32) (j : Nat) : Int32 := (s >>> (nI j &&& 31)) &&& nI 1
def hcR (s : Int32) (x : Nat) : Nat → Bool
  | 0 => false
  | y + 1 => hcR s x y || decide (bitI s (5 * y + x) = nI 1)
def wfF (h : Nat → Bool) : Nat → Int32 × Int32
  | 0 => (-1, -1)
  | k + 1 => if h k then ((if (wfF h k).1 = -1 then nI k else (wfF h k).1), nI k) else wfF h k
def wdF (h : Nat → Bool) : Int32 := if (wfF h 5).1 = -1 then nI 2 else (wfF h 5).2 - (wfF h 5).1 + nI 1
def bsum (s : Int32) : Nat → Int32
  | 0 => nI 0
  | k + 1 => bsum s k + bitI s k
def df (a b : Int32) : Int32 := bsum (a ^^^ b) 25
def dg (t j : Nat) : Nat := t / 8 ^ j % 8
def inB (g : Int32) (n : Nat) : Bool := decide (¬ g < 0 ∧ ¬ nI n ≤ g)
def rgB (g lo hi : Int32) : Bool := decide (¬ g < lo ∧ ¬ hi < g)
def txB (t m : Int32) : Bool := rgB m (nI 1) (nI 5) && rgB t (nI 0) (nI (8 ^ m.toNatClampNeg - 1))
theorem inB_lt {g : Int32} {n : Nat} (h : g < 0) : inB g n = false := by simp [inB, h]
theorem inB_ge {g : Int32} {n : Nat} (h : nI n ≤ g) : inB g n = false := by simp [inB, h]
theorem inB_of {g : Int32} {n : Nat} (h1 : ¬ g < 0) (h2 : ¬ nI n ≤ g) : inB g n = true := by simp [inB, h1, h2]
theorem inB_ex {g : Int32} {n : Nat} (hn : n < 2 ^ 31) (h : inB g n = true) : ∃ k, k < n ∧ g = nI k := by
  simp only [inB, decide_eq_true_eq] at h
  rcases pk_ix g hn with q | q | ⟨j, h1, h2⟩
  · exact absurd q h.1
  · exact absurd q h.2
  · exact ⟨j, h1, h2⟩
theorem inB_nI {k n : Nat} (h : k < n) (hn : n < 2 ^ 31) : inB (nI k) n = true := inB_of (nI_pos (by omega)) (nI_ge h hn)
theorem rg_in (g : Int32) {n : Nat} (hn : n + 1 < 2 ^ 31) : rgB g (nI 0) (nI n) = inB g (n + 1) := by
  rcases pk_ix g hn with q | q | ⟨j, h1, h2⟩
  · rw [inB_lt q]
    have : g < nI 0 := by rw [nI_0]; exact q
    simp [rgB, this]
  · rw [inB_ge q]
    have h2 : nI n < g := by
      have e1 : (nI n).toInt = n := nI_toInt (by omega)
      have e2 : (nI (n + 1)).toInt = (n + 1 : Nat) := nI_toInt hn
      rw [fa_lt, e1]
      rw [fa_le, e2] at q
      omega
    simp [rgB, h2]
  · subst h2
    rw [inB_nI h1 hn]
    have e1 : ¬ nI j < nI 0 := by rw [nI_0]; exact nI_pos (by omega)
    have e2 : ¬ nI n < nI j := nI_nlt (by omega) (by omega)
    simp [rgB, e1, e2]
theorem rg_1 (m : Int32) (h : rgB m (nI 1) (nI 5) = true) : ∃ k, 1 ≤ k ∧ k ≤ 5 ∧ m = nI k := by
  simp only [rgB, decide_eq_true_eq] at h
  have h1 : ¬ m < 0 := fun q => h.1 (by
    rw [fa_lt] at q ⊢
    rw [nI_toInt (by decide)]
    have : (0 : Int32).toInt = 0 := by decide
    omega)
  obtain ⟨j, hj, rfl⟩ := nI_of h1
  have h2 : ¬ j < 1 := fun q => h.1 ((nI_ltI hj (by decide)).mpr q)
  have h3 : ¬ 5 < j := fun q => h.2 ((nI_ltI (by decide) hj).mpr q)
  exact ⟨j, by omega, by omega, rfl⟩
theorem rg_1nI {k : Nat} (h1 : 1 ≤ k) (h2 : k ≤ 5) : rgB (nI k) (nI 1) (nI 5) = true := by
  have e1 : ¬ nI k < nI 1 := nI_nlt h1 (by omega)
  have e2 : ¬ nI 5 < nI k := nI_nlt h2 (by omega)
  simp [rgB, e1, e2]
theorem p8_le {k : Nat} (h : k ≤ 5) : 8 ^ k ≤ 32768 := Nat.pow_le_pow_right (by decide) h
theorem p8_pos (k : Nat) : 0 < 8 ^ k := Nat.pow_pos (by decide)
theorem txB_k {t : Int32} {k : Nat} (h1 : 1 ≤ k) (h2 : k ≤ 5) : txB t (nI k) = inB t (8 ^ k) := by
  have h3 := p8_le h2
  have h4 := p8_pos k
  unfold txB
  rw [rg_1nI h1 h2, nI_clamp (by omega), rg_in t (by omega), Nat.sub_add_cancel (by omega), Bool.true_and]
theorem txB_no {t m : Int32} (h : rgB m (nI 1) (nI 5) = false) : txB t m = false := by unfold txB; rw [h]; rfl
theorem txB_ex {t m : Int32} (h : txB t m = true) : ∃ a k, 1 ≤ k ∧ k ≤ 5 ∧ a < 8 ^ k ∧ t = nI a ∧ m = nI k := by
  have h0 : rgB m (nI 1) (nI 5) = true := by
    unfold txB at h
    cases hr : rgB m (nI 1) (nI 5) with
    | true => rfl
    | false => rw [hr] at h; cases h
  obtain ⟨k, h1, h2, rfl⟩ := rg_1 m h0
  rw [txB_k h1 h2] at h
  obtain ⟨a, h3, h4⟩ := inB_ex (by have := p8_le h2; omega) h
  exact ⟨a, k, h1, h2, h3, h4, rfl⟩
theorem txB_nI {a k : Nat} (h1 : 1 ≤ k) (h2 : k ≤ 5) (h3 : a < 8 ^ k) : txB (nI a) (nI k) = true := by
  rw [txB_k h1 h2]
  exact inB_nI h3 (by have := p8_le h2; omega)
theorem shl8 : ∀ k, k < 6 → nI 1 <<< (nI (3 * k) &&& 31) = nI (8 ^ k) := by decide
theorem mulI (a b : Nat) : nI a * nI b = nI (a * b) := pk_mul a b
theorem absd : ∀ a, a < 5 → ∀ c, c < 5 → (if 0 ≤ nI c - nI a then nI c - nI a else 0 - (nI c - nI a)) = nI (dist a c) := by decide
theorem dist_lt : ∀ a, a < 5 → ∀ c, c < 5 → dist a c < 5 := by decide
theorem maxd : ∀ a, a < 5 → ∀ c, c < 5 → (if nI a < nI c then nI c else nI a) = nI (max a c) := by decide
theorem packN {t k : Nat} (ht : t < 32768) (hk : k ≤ 5) : (nI k <<< (nI 15 &&& 31)) ||| nI t = nI (32768 * k + t) := by
  have e : nI k <<< (nI 15 &&& 31) = nI (2 ^ 15 * k) := by
    have h : ∀ k, k < 6 → nI k <<< (nI 15 &&& 31) = nI (2 ^ 15 * k) := by decide
    exact h k (by omega)
  rw [e]
  exact fa_or_sum (k := 15) k ht
theorem manyN {t k : Nat} (ht : t < 32768) (hk : k ≤ 5) : nI (32768 * k + t) >>> (nI 15 &&& 31) = nI k := by
  rw [pk_shrN (k := 15) (by omega) _ (by decide)]
  congr 1
  omega
theorem numN {t k : Nat} (ht : t < 32768) : nI (32768 * k + t) &&& nI 32767 = nI t := by
  have h : nI (32768 * k + t) &&& nI (2 ^ 15 - 1) = nI ((32768 * k + t) % 2 ^ 15) := fa_mask _ 15
  have e : (32768 * k + t) % 2 ^ 15 = t := by omega
  rw [e] at h
  exact h
theorem dig5 {t k j : Nat} (hj : j < 5) : (32768 * k + t) / 8 ^ j % 8 = dg t j := by
  unfold dg
  have h : j = 0 ∨ j = 1 ∨ j = 2 ∨ j = 3 ∨ j = 4 := by omega
  rcases h with rfl | rfl | rfl | rfl | rfl <;> omega
theorem dg_lt (t j : Nat) : dg t j < 8 := Nat.mod_lt _ (by decide)
theorem glyN {P j : Nat} (hP : P < 2 ^ 31) (hj : j < 5) : (nI P >>> (nI (3 * j) &&& 31)) &&& nI 7 = nI (P / 8 ^ j % 8) := by
  have hs : (((nI (3 * j) &&& 31).toBitVec.smod 32).toNat) = 3 * j := by
    have h : ∀ j, j < 5 → (((nI (3 * j) &&& 31).toBitVec.smod 32).toNat) = 3 * j := by decide
    exact h j hj
  rw [pk_shrN hP _ (3 * j) hs]
  have h := fa_mask (P / 2 ^ (3 * j)) 3
  have e : P / 2 ^ (3 * j) % 2 ^ 3 = P / 8 ^ j % 8 := by rw [Nat.pow_mul]
  rw [e] at h
  exact h
end
section
set_option maxHeartbeats 4000000 in
set_option maxRecDepth 100000 in
theorem c_X0_pairOf (l : Launch) (a b : Nat) : k_M l yX0_pairOf wsX0_pairOf ({ frames := 0, cells := 0, slots := 0, locals := 0 } : Room) [.int (nI a), .int (nI b)] k_tt (some (.int (nI (a * 8 + b)))) := by
  refine k_head (cc := cX0_pairOf) (maxL := 2) (ret := some .int) [(0, .int (nI a)), (1, .int (nI b))] (by decide) rfl (Nat.le_of_ble_eq_true rfl) rfl ?_
  intro p e s m below meth c ls hx hb hr hml hown hts hlocks hname hB hl
  have hown : s.vm.findClass RX0 = some m.cls := hown
  refine lv_iload_n hx hb dX0_pairOf_0 rfl (lv_at hl 0 rfl) ?_
  refine lv_bipush (v := nI 8) hx hb dX0_pairOf_1 (by decide) ?_
  refine lv_imul hx hb dX0_pairOf_3 ?_
  refine lv_as (pk_mul _ _) ?_
  refine lv_iload_n hx hb dX0_pairOf_4 rfl (lv_at hl 1 rfl) ?_
  refine lv_iadd hx hb dX0_pairOf_5 ?_
  refine lv_as (nI_add _ _) ?_
  exact k_iret hx hb hr hlocks dX0_pairOf_6 (rfl)
set_option maxHeartbeats 4000000 in
set_option maxRecDepth 100000 in
theorem c_X0_wayOf (l : Launch) (a b : Nat) : k_M l yX0_wayOf wsX0_wayOf ({ frames := 0, cells := 0, slots := 0, locals := 0 } : Room) [.int (nI a), .int (nI b)] k_tt (some (.int (nI (a * 4 + b)))) := by
  refine k_head (cc := cX0_wayOf) (maxL := 2) (ret := some .int) [(0, .int (nI a)), (1, .int (nI b))] (by decide) rfl (Nat.le_of_ble_eq_true rfl) rfl ?_
  intro p e s m below meth c ls hx hb hr hml hown hts hlocks hname hB hl
  have hown : s.vm.findClass RX0 = some m.cls := hown
  refine lv_iload_n hx hb dX0_wayOf_0 rfl (lv_at hl 0 rfl) ?_
  refine lv_iconst (v := nI 4) hx hb dX0_wayOf_1 (by decide) ?_
  refine lv_imul hx hb dX0_wayOf_2 ?_
  refine lv_as (pk_mul _ _) ?_
  refine lv_iload_n hx hb dX0_wayOf_3 rfl (lv_at hl 1 rfl) ?_
  refine lv_iadd hx hb dX0_wayOf_4 ?_
  refine lv_as (nI_add _ _) ?_
  exact k_iret hx hb hr hlocks dX0_wayOf_5 (rfl)
set_option maxHeartbeats 4000000 in
set_option maxRecDepth 100000 in
theorem c_X0_pack (l : Launch) (t k : Nat) (ht : t < 32768) (hk : k ≤ 5) : k_M l yX0_pack wsX0_pack ({ frames := 0, cells := 0, slots := 0, locals := 0 } : Room) [.int (nI t), .int (nI k)] k_tt (some (.int (nI (32768 * k + t)))) := by
  refine k_head (cc := cX0_pack) (maxL := 2) (ret := some .int) [(0, .int (nI t)), (1, .int (nI k))] (by decide) rfl (Nat.le_of_ble_eq_true rfl) rfl ?_
  intro p e s m below meth c ls hx hb hr hml hown hts hlocks hname hB hl
  have hown : s.vm.findClass RX0 = some m.cls := hown
  refine lv_iload_n hx hb dX0_pack_0 rfl (lv_at hl 1 rfl) ?_
  refine lv_bipush (v := nI 15) hx hb dX0_pack_1 (by decide) ?_
  refine lv_ishl hx hb dX0_pack_3 ?_
  refine lv_iload_n hx hb dX0_pack_4 rfl (lv_at hl 0 rfl) ?_
  refine lv_ior hx hb dX0_pack_5 ?_
  exact k_iret hx hb hr hlocks dX0_pack_6 (packN ht hk)
set_option maxHeartbeats 4000000 in
set_option maxRecDepth 100000 in
theorem c_X0_manyOf (l : Launch) (t k : Nat) (ht : t < 32768) (hk : k ≤ 5) : k_M l yX0_manyOf wsX0_manyOf ({ frames := 0, cells := 0, slots := 0, locals := 0 } : Room) [.int (nI (32768 * k + t))] k_tt (some (.int (nI k))) := by
  refine k_head (cc := cX0_manyOf) (maxL := 1) (ret := some .int) [(0, .int (nI (32768 * k + t)))] (by decide) rfl (Nat.le_of_ble_eq_true rfl) rfl ?_
  intro p e s m below meth c ls hx hb hr hml hown hts hlocks hname hB hl
  have hown : s.vm.findClass RX0 = some m.cls := hown
  refine lv_iload_n hx hb dX0_manyOf_0 rfl (lv_at hl 0 rfl) ?_
  refine lv_bipush (v := nI 15) hx hb dX0_manyOf_1 (by decide) ?_
  refine lv_ishr hx hb dX0_manyOf_3 ?_
  exact k_iret hx hb hr hlocks dX0_manyOf_4 (manyN ht hk)
set_option maxHeartbeats 4000000 in
set_option maxRecDepth 100000 in
theorem c_X0_numberOf (l : Launch) (t k : Nat) (ht : t < 32768) : k_M l yX0_numberOf wsX0_numberOf ({ frames := 0, cells := 0, slots := 0, locals := 0 } : Room) [.int (nI (32768 * k + t))] k_tt (some (.int (nI t))) := by
  refine k_head (cc := cX0_numberOf) (maxL := 1) (ret := some .int) [(0, .int (nI (32768 * k + t)))] (by decide) rfl (Nat.le_of_ble_eq_true rfl) rfl ?_
  intro p e s m below meth c ls hx hb hr hml hown hts hlocks hname hB hl
  have hown : s.vm.findClass RX0 = some m.cls := hown
  refine lv_iload_n hx hb dX0_numberOf_0 rfl (lv_at hl 0 rfl) ?_
  refine lv_sipush (v := nI 32767) hx hb dX0_numberOf_1 (by decide) ?_
  refine lv_iand hx hb dX0_numberOf_4 ?_
  exact k_iret hx hb hr hlocks dX0_numberOf_5 (numN ht)
set_option maxHeartbeats 4000000 in
set_option maxRecDepth 100000 in
theorem c_X0_glyphAt (l : Launch) (t k j : Nat) (ht : t < 32768) (hk : k ≤ 5) (hj : j < 5) : k_M l yX0_glyphAt wsX0_glyphAt ({ frames := 0, cells := 0, slots := 0, locals := 0 } : Room) [.int (nI (32768 * k + t)), .int (nI j)] k_tt (some (.int (nI (dg t j)))) := by
  refine k_head (cc := cX0_glyphAt) (maxL := 2) (ret := some .int) [(0, .int (nI (32768 * k + t))), (1, .int (nI j))] (by decide) rfl (Nat.le_of_ble_eq_true rfl) rfl ?_
  intro p e s m below meth c ls hx hb hr hml hown hts hlocks hname hB hl
  have hown : s.vm.findClass RX0 = some m.cls := hown
  refine lv_iload_n hx hb dX0_glyphAt_0 rfl (lv_at hl 0 rfl) ?_
  refine lv_iconst (v := nI 3) hx hb dX0_glyphAt_1 (by decide) ?_
  refine lv_iload_n hx hb dX0_glyphAt_2 rfl (lv_at hl 1 rfl) ?_
  refine lv_imul hx hb dX0_glyphAt_3 ?_
  refine lv_as (pk_mul _ _) ?_
  refine lv_ishr hx hb dX0_glyphAt_4 ?_
  refine lv_bipush (v := nI 7) hx hb dX0_glyphAt_5 (by decide) ?_
  refine lv_iand hx hb dX0_glyphAt_7 ?_
  exact k_iret hx hb hr hlocks dX0_glyphAt_8 ((glyN (by omega) hj).trans (by rw [dig5 hj]))
set_option maxHeartbeats 4000000 in
set_option maxRecDepth 100000 in
theorem c_X0_isCell (l : Launch) (x y : Int32) : k_M l yX0_isCell wsX0_isCell ({ frames := 0, cells := 0, slots := 0, locals := 0 } : Room) [.int x, .int y] k_tt (some (.int (bI (inB x 5 && inB y 5)))) := by
  refine k_head (cc := cX0_isCell) (maxL := 2) (ret := some .boolean) [(0, .int x), (1, .int y)] (by decide) rfl (Nat.le_of_ble_eq_true rfl) rfl ?_
  intro p e s m below meth c ls hx hb hr hml hown hts hlocks hname hB hl
  have hown : s.vm.findClass RX0 = some m.cls := hown
  refine lv_iload_n hx hb dX0_isCell_0 rfl (lv_at hl 0 rfl) ?_
  refine lv_if_lt (tgt := 22) hx hb dX0_isCell_1 (by decide) (fun c_1 => ?_) (fun c_1 => ?_)
  · refine lv_iconst (v := nI 0) hx hb dX0_isCell_22 (by decide) ?_
    exact k_zret hx hb hr hlocks dX0_isCell_23 (by first | (rw [inB_lt c_1]; rfl) | (rw [inB_ge c_6]; rfl) | (rw [inB_lt c_10, Bool.and_false]; rfl) | (rw [inB_ge c_15, Bool.and_false]; rfl))
  · refine lv_iload_n hx hb dX0_isCell_4 rfl (lv_at hl 0 rfl) ?_
    refine lv_iconst (v := nI 5) hx hb dX0_isCell_5 (by decide) ?_
    refine lv_icmp_ge (tgt := 22) hx hb dX0_isCell_6 (by decide) (fun c_6 => ?_) (fun c_6 => ?_)
    · refine lv_iconst (v := nI 0) hx hb dX0_isCell_22 (by decide) ?_
      exact k_zret hx hb hr hlocks dX0_isCell_23 (by first | (rw [inB_lt c_1]; rfl) | (rw [inB_ge c_6]; rfl) | (rw [inB_lt c_10, Bool.and_false]; rfl) | (rw [inB_ge c_15, Bool.and_false]; rfl))
    · refine lv_iload_n hx hb dX0_isCell_9 rfl (lv_at hl 1 rfl) ?_
      refine lv_if_lt (tgt := 22) hx hb dX0_isCell_10 (by decide) (fun c_10 => ?_) (fun c_10 => ?_)
      · refine lv_iconst (v := nI 0) hx hb dX0_isCell_22 (by decide) ?_
        exact k_zret hx hb hr hlocks dX0_isCell_23 (by first | (rw [inB_lt c_1]; rfl) | (rw [inB_ge c_6]; rfl) | (rw [inB_lt c_10, Bool.and_false]; rfl) | (rw [inB_ge c_15, Bool.and_false]; rfl))
      · refine lv_iload_n hx hb dX0_isCell_13 rfl (lv_at hl 1 rfl) ?_
        refine lv_iconst (v := nI 5) hx hb dX0_isCell_14 (by decide) ?_
        refine lv_icmp_ge (tgt := 22) hx hb dX0_isCell_15 (by decide) (fun c_15 => ?_) (fun c_15 => ?_)
        · refine lv_iconst (v := nI 0) hx hb dX0_isCell_22 (by decide) ?_
          exact k_zret hx hb hr hlocks dX0_isCell_23 (by first | (rw [inB_lt c_1]; rfl) | (rw [inB_ge c_6]; rfl) | (rw [inB_lt c_10, Bool.and_false]; rfl) | (rw [inB_ge c_15, Bool.and_false]; rfl))
        · refine lv_iconst (v := nI 1) hx hb dX0_isCell_18 (by decide) ?_
          refine lv_goto (tgt := 23) hx hb dX0_isCell_19 (by decide) ?_
          exact k_zret hx hb hr hlocks dX0_isCell_23 (by rw [inB_of c_1 c_6, inB_of c_10 c_15]; rfl)
set_option maxHeartbeats 4000000 in
set_option maxRecDepth 100000 in
theorem c_X0_direction (l : Launch) (a b : Nat) (ha : a < 5) (hb5 : b < 5) : k_M l yX0_direction wsX0_direction ({ frames := 0, cells := 0, slots := 0, locals := 0 } : Room) [.int (nI a), .int (nI b)] k_tt (some (.int (dr a b))) := by
  refine k_head (cc := cX0_direction) (maxL := 2) (ret := some .int) [(0, .int (nI a)), (1, .int (nI b))] (by decide) rfl (Nat.le_of_ble_eq_true rfl) rfl ?_
  intro p e s m below meth c ls hx hb hr hml hown hts hlocks hname hB hl
  have hown : s.vm.findClass RX0 = some m.cls := hown
  refine lv_iload_n hx hb dX0_direction_0 rfl (lv_at hl 1 rfl) ?_
  refine lv_iload_n hx hb dX0_direction_1 rfl (lv_at hl 0 rfl) ?_
  refine n_icmp_le (tgt := 9) hx hb dX0_direction_2 (by decide) (by omega) (by omega) (fun c_2 => ?_) (fun c_2 => ?_)
  · refine lv_iload_n hx hb dX0_direction_9 rfl (lv_at hl 1 rfl) ?_
    refine lv_iload_n hx hb dX0_direction_10 rfl (lv_at hl 0 rfl) ?_
    refine n_icmp_ge (tgt := 18) hx hb dX0_direction_11 (by decide) (by omega) (by omega) (fun c_11 => ?_) (fun c_11 => ?_)
    · refine lv_iconst (v := nI 0) hx hb dX0_direction_18 (by decide) ?_
      exact k_iret hx hb hr hlocks dX0_direction_19 (by rw [dr, if_neg (Nat.not_lt.mpr c_2), if_neg (Nat.not_lt.mpr c_11)])
    · refine lv_iconst (v := (-1)) hx hb dX0_direction_14 (by decide) ?_
      refine lv_goto (tgt := 19) hx hb dX0_direction_15 (by decide) ?_
      exact k_iret hx hb hr hlocks dX0_direction_19 (by rw [dr, if_neg (Nat.not_lt.mpr c_2), if_pos c_11])
  · refine lv_iconst (v := nI 1) hx hb dX0_direction_5 (by decide) ?_
    refine lv_goto (tgt := 19) hx hb dX0_direction_6 (by decide) ?_
    exact k_iret hx hb hr hlocks dX0_direction_19 (by rw [dr, if_pos c_2])
end
section
/-! Integer.bitCount against the sum of 25 bits -/
def pcn (n : Nat) : Nat → Nat
  | 0 => 0
  | k + 1 => pcn n k + n / 2 ^ k % 2
theorem bitI_nI {n : Nat} (hn : n < 2 ^ 31) {k : Nat} (hk : k < 32) : bitI (nI n) k = nI (n / 2 ^ k % 2) := by
  unfold bitI
  rw [pk_shrN hn _ k (s_l k hk)]
  exact fa_mask _ 1
theorem bsum_nI {n : Nat} (hn : n < 2 ^ 31) : ∀ k, k ≤ 25 → bsum (nI n) k = nI (pcn n k) := by
  intro k
  induction k with
  | zero => intro _; rfl
  | succ k ih =>
    intro hk
    show bsum (nI n) k + bitI (nI n) k = nI (pcn n k + n / 2 ^ k % 2)
    rw [ih (by omega), bitI_nI hn (by omega), nI_add]
def bc1 (x : Int32) : Int32 := x - ((x.toUInt32 >>> ((nI 1).toUInt32 &&& Int32.toUInt32 31)).toInt32 &&& 1431655765)
def bc2 (x : Int32) : Int32 := (x &&& 858993459) + ((x.toUInt32 >>> ((nI 2).toUInt32 &&& Int32.toUInt32 31)).toInt32 &&& 858993459)
def bc3 (x : Int32) : Int32 := (x + (x.toUInt32 >>> ((nI 4).toUInt32 &&& Int32.toUInt32 31)).toInt32) &&& 252645135
def bc4 (x : Int32) : Int32 := x + (x.toUInt32 >>> ((nI 8).toUInt32 &&& Int32.toUInt32 31)).toInt32
def bc5 (x : Int32) : Int32 := x + (x.toUInt32 >>> ((nI 16).toUInt32 &&& Int32.toUInt32 31)).toInt32
def bcJ (x : Int32) : Int32 := bc5 (bc4 (bc3 (bc2 (bc1 x)))) &&& nI 63
def q1 (d n : Nat) : Nat := n - ((n / 2) &&& d)
def q2 (d n : Nat) : Nat := (n &&& d) + ((n / 4) &&& d)
def q3 (d n : Nat) : Nat := (n + n / 16) &&& d
theorem and8 {a c : Nat} (m d : Nat) (ha : a < 256) (hc : c < 256) : (a + 256 * m) &&& (c + 256 * d) = (a &&& c) + 256 * (m &&& d) := by
  have e1 : a + 256 * m = 2 ^ 8 * m + a := by omega
  have e2 : c + 256 * d = 2 ^ 8 * d + c := by omega
  have h3 : a &&& c < 2 ^ 8 := Nat.lt_of_le_of_lt Nat.and_le_left ha
  have e3 : (a &&& c) + 256 * (m &&& d) = 2 ^ 8 * (m &&& d) + (a &&& c) := by omega
  rw [e1, e2, e3]
  apply Nat.eq_of_testBit_eq
  intro i
  rw [Nat.testBit_and, Nat.testBit_two_pow_mul_add _ ha, Nat.testBit_two_pow_mul_add _ hc, Nat.testBit_two_pow_mul_add _ h3]
  by_cases h : i < 8 <;> simp [h, Nat.testBit_and]
theorem tab1 : ∀ a, a < 256 → ∀ t, t < 2 → (a / 2 + 128 * t) &&& 85 = (a / 2) &&& 85 := by decide +kernel
theorem tab2 : ∀ a, a < 256 → ∀ t, t < 4 → (a / 4 + 64 * t) &&& 51 = (a / 4) &&& 51 := by decide +kernel
theorem tab3 : ∀ a, a < 69 → ∀ t, t < 5 → (a + a / 16 + 16 * t) &&& 15 = (a + a / 16) &&& 15 := by decide +kernel
theorem tab4 : ∀ a, a < 256 → q1 85 a < 256 ∧ q2 51 (q1 85 a) % 16 < 5 ∧ q2 51 (q1 85 a) / 16 < 5 ∧ q3 15 (q2 51 (q1 85 a)) = pcn a 8 ∧ pcn a 8 ≤ 8 := by decide +kernel
theorem q1_s {a m d : Nat} (ha : a < 256) : q1 (85 + 256 * d) (a + 256 * m) = q1 85 a + 256 * q1 d m := by
  have e : (a + 256 * m) / 2 = (a / 2 + 128 * (m % 2)) + 256 * (m / 2) := by omega
  have t := tab1 a ha (m % 2) (Nat.mod_lt _ (by decide))
  have l1 : (a / 2) &&& 85 ≤ a := Nat.le_trans Nat.and_le_left (Nat.div_le_self _ _)
  have l2 : (m / 2) &&& d ≤ m := Nat.le_trans Nat.and_le_left (Nat.div_le_self _ _)
  unfold q1
  rw [e, and8 _ _ (by omega) (by decide), t]
  omega
theorem q2_s {a m d : Nat} (ha : a < 256) : q2 (51 + 256 * d) (a + 256 * m) = q2 51 a + 256 * q2 d m := by
  have e : (a + 256 * m) / 4 = (a / 4 + 64 * (m % 4)) + 256 * (m / 4) := by omega
  have t := tab2 a ha (m % 4) (Nat.mod_lt _ (by decide))
  unfold q2
  rw [e, and8 m d ha (by decide), and8 (m / 4) d (by omega) (by decide), t]
  omega
theorem q3_s {a m d : Nat} (h1 : a % 16 < 5) (h2 : a / 16 < 5) (hm : m % 16 < 5) : q3 (15 + 256 * d) (a + 256 * m) = q3 15 a + 256 * q3 d m := by
  have e : (a + 256 * m) + (a + 256 * m) / 16 = (a + a / 16 + 16 * (m % 16)) + 256 * (m + m / 16) := by omega
  have t := tab3 a (by omega) (m % 16) hm
  unfold q3
  rw [e, and8 _ _ (by omega) (by decide), t]
theorem pcn_lo {a m : Nat} : pcn (a + 256 * m) 8 = pcn a 8 := by
  simp only [pcn]
  omega
theorem pcn_hi {a m : Nat} (ha : a < 256) : ∀ j, pcn (a + 256 * m) (8 + j) = pcn a 8 + pcn m j := by
  intro j
  induction j with
  | zero => rw [Nat.add_zero]; exact pcn_lo
  | succ j ih =>
    show pcn (a + 256 * m) (8 + j) + (a + 256 * m) / 2 ^ (8 + j) % 2 = pcn a 8 + (pcn m j + m / 2 ^ j % 2)
    have e : (a + 256 * m) / 2 ^ (8 + j) = m / 2 ^ j := by
      rw [Nat.pow_add, ← Nat.div_div_eq_div_mul]
      congr 1
      omega
    rw [ih, e]
    omega
theorem q_all {a b c d : Nat} (ha : a < 256) (hb : b < 256) (hc : c < 256) (hd : d < 256) : q3 252645135 (q2 858993459 (q1 1431655765 (a + 256 * (b + 256 * (c + 256 * d))))) = pcn a 8 + 256 * (pcn b 8 + 256 * (pcn c 8 + 256 * pcn d 8)) := by
  obtain ⟨a1, a2, a3, a4, -⟩ := tab4 a ha
  obtain ⟨b1, b2, b3, b4, -⟩ := tab4 b hb
  obtain ⟨c1, c2, c3, c4, -⟩ := tab4 c hc
  obtain ⟨d1, d2, d3, d4, -⟩ := tab4 d hd
  have e1 : (1431655765 : Nat) = 85 + 256 * (85 + 256 * (85 + 256 * 85)) := by decide
  have e2 : (858993459 : Nat) = 51 + 256 * (51 + 256 * (51 + 256 * 51)) := by decide
  have e3 : (252645135 : Nat) = 15 + 256 * (15 + 256 * (15 + 256 * 15)) := by decide
  rw [e1, e2, e3, q1_s ha, q1_s hb, q1_s hc, q2_s a1, q2_s b1, q2_s c1, q3_s a2 a3 (by omega), q3_s b2 b3 (by omega), q3_s c2 c3 (by omega), a4, b4, c4, d4]
theorem bc_end {w0 w1 w2 w3 : Nat} (h0 : w0 ≤ 8) (h1 : w1 ≤ 8) (h2 : w2 ≤ 8) (h3 : w3 ≤ 8) : (w0 + 256 * (w1 + 256 * (w2 + 256 * w3)) + (w0 + 256 * (w1 + 256 * (w2 + 256 * w3))) / 2 ^ 8 + (w0 + 256 * (w1 + 256 * (w2 + 256 * w3)) + (w0 + 256 * (w1 + 256 * (w2 + 256 * w3))) / 2 ^ 8) / 2 ^ 16) % 2 ^ 6 = w0 + (w1 + (w2 + w3)) := by
  have k1 : (w0 + 256 * (w1 + 256 * (w2 + 256 * w3))) / 2 ^ 8 = w1 + 256 * (w2 + 256 * w3) := by omega
  rw [k1]
  have k2 : (w0 + 256 * (w1 + 256 * (w2 + 256 * w3)) + (w1 + 256 * (w2 + 256 * w3))) / 2 ^ 16 = w2 + w3 + 256 * w3 := by omega
  rw [k2]
  have k3 : w0 + 256 * (w1 + 256 * (w2 + 256 * w3)) + (w1 + 256 * (w2 + 256 * w3)) + (w2 + w3 + 256 * w3) = (w0 + (w1 + (w2 + w3))) + 64 * (4 * (w1 + 256 * (w2 + 256 * w3)) + 4 * (w2 + 256 * w3) + 4 * w3) := by omega
  rw [k3, Nat.add_mul_mod_self_left]
  exact Nat.mod_eq_of_lt (by omega)
theorem bc_pcn {n : Nat} (hn : n < 2 ^ 25) : bcJ (nI n) = nI (pcn n 25) := by
  have en : n = n % 256 + 256 * (n / 256 % 256 + 256 * (n / 65536 % 256 + 256 * (n / 16777216))) := by omega
  have ha : n % 256 < 256 := Nat.mod_lt _ (by decide)
  have hb : n / 256 % 256 < 256 := Nat.mod_lt _ (by decide)
  have hc : n / 65536 % 256 < 256 := Nat.mod_lt _ (by decide)
  have hd : n / 16777216 < 2 := by omega
  generalize n % 256 = a at en ha
  generalize n / 256 % 256 = b at en hb
  generalize n / 65536 % 256 = c at en hc
  generalize n / 16777216 = d at en hd
  obtain ⟨-, -, -, -, a5⟩ := tab4 a ha
  obtain ⟨-, -, -, -, b5⟩ := tab4 b hb
  obtain ⟨-, -, -, -, c5⟩ := tab4 c hc
  obtain ⟨-, -, -, -, d5⟩ := tab4 d (by omega)
  have hq := q_all ha hb hc (d := d) (by omega)
  rw [← en] at hq
  have h1 : bc1 (nI n) = nI (q1 1431655765 n) := by
    unfold bc1
    rw [pk_ushrN (by omega) _ 1 (by decide), show (1431655765 : Int32) = nI 1431655765 from by decide, fa_and, pk_sub (Nat.le_trans Nat.and_le_left (Nat.div_le_self _ _))]
    rfl
  have l1 : q1 1431655765 n ≤ n := Nat.sub_le _ _
  generalize q1 1431655765 n = n1 at h1 hq l1
  have h2 : bc2 (nI n1) = nI (q2 858993459 n1) := by
    unfold bc2
    rw [pk_ushrN (by omega) _ 2 (by decide), show (858993459 : Int32) = nI 858993459 from by decide, fa_and, fa_and, nI_add]
    rfl
  have l2 : q2 858993459 n1 ≤ n1 + n1 / 4 := Nat.add_le_add Nat.and_le_left Nat.and_le_left
  generalize q2 858993459 n1 = n2 at h2 hq l2
  have h3 : bc3 (nI n2) = nI (q3 252645135 n2) := by
    unfold bc3
    rw [pk_ushrN (by omega) _ 4 (by decide), show (252645135 : Int32) = nI 252645135 from by decide, nI_add, fa_and]
    rfl
  have hp : pcn n 25 = pcn a 8 + (pcn b 8 + (pcn c 8 + pcn d 1)) := by
    rw [en]
    rw [show (25 : Nat) = 8 + (8 + (8 + 1)) from rfl, pcn_hi ha, pcn_hi hb, pcn_hi hc]
  have hd8 : pcn d 8 = pcn d 1 := by
    have h : ∀ d, d < 2 → pcn d 8 = pcn d 1 := by decide
    exact h d hd
  rw [hq, hd8] at h3
  rw [hd8] at d5
  generalize pcn a 8 = w0 at *
  generalize pcn b 8 = w1 at *
  generalize pcn c 8 = w2 at *
  generalize pcn d 1 = w3 at *
  unfold bcJ
  rw [h1, h2, h3]
  unfold bc4 bc5
  rw [pk_ushrN (by omega) _ 8 (by decide), nI_add, pk_ushrN (by omega) _ 16 (by decide), nI_add, show nI 63 = nI (2 ^ 6 - 1) from rfl, fa_mask, hp, bc_end a5 b5 c5 d5]
theorem bc_bsum {n : Nat} (hn : n < 2 ^ 25) : bcJ (nI n) = bsum (nI n) 25 := by rw [bc_pcn hn, bsum_nI (by omega) 25 (Nat.le_refl _)]
/-- a shape: 25 bits -/
def S25 (x : Int32) : Prop := ∃ n, n < 2 ^ 25 ∧ x = nI n
theorem S25_0 : S25 (nI 0) := ⟨0, by decide, rfl⟩
theorem S25_xor {x y : Int32} (hx : S25 x) (hy : S25 y) : S25 (x ^^^ y) := by
  obtain ⟨a, ha, rfl⟩ := hx
  obtain ⟨b, hb, rfl⟩ := hy
  exact ⟨a ^^^ b, Nat.xor_lt_two_pow ha hb, nx_xor a b⟩
theorem S25_or {x y : Int32} (hx : S25 x) (hy : S25 y) : S25 (x ||| y) := by
  obtain ⟨a, ha, rfl⟩ := hx
  obtain ⟨b, hb, rfl⟩ := hy
  exact ⟨a ||| b, Nat.or_lt_two_pow ha hb, fa_or a b⟩
theorem S25_and {x : Int32} (y : Int32) (hx : S25 x) : S25 (x &&& y) := by
  obtain ⟨a, ha, rfl⟩ := hx
  obtain ⟨b, hb, rfl⟩ := wb_of32 y
  exact ⟨a &&& b, Nat.lt_of_le_of_lt Nat.and_le_left ha, nx_and a b⟩
theorem bc_df {x y : Int32} (hx : S25 x) (hy : S25 y) : bcJ (x ^^^ y) = df x y := by
  obtain ⟨n, hn, e⟩ := S25_xor hx hy
  unfold df
  rw [e]
  exact bc_bsum hn
end
section
theorem rg_f1 {v lo hi : Int32} (h : v < lo) : nI 0 = bI (rgB v lo hi) := by simp [rgB, h]; rfl
theorem rg_f2 {v lo hi : Int32} (h : hi < v) : nI 0 = bI (rgB v lo hi) := by simp [rgB, h]; rfl
theorem rg_t {v lo hi : Int32} (h1 : ¬ v < lo) (h2 : ¬ hi < v) : nI 1 = bI (rgB v lo hi) := by simp [rgB, h1, h2]; rfl
theorem tx_rg (t : Int32) {k : Nat} (h1 : 1 ≤ k) (h2 : k ≤ 5) : rgB t (nI 0) (nI (8 ^ k - 1)) = txB t (nI k) := by
  have h3 := p8_le h2
  have h4 := p8_pos k
  rw [txB_k h1 h2, rg_in t (by omega), Nat.sub_add_cancel (by omega)]
theorem wfF_t {h : Nat → Bool} {k : Nat} (e : h k = true) : wfF h (k + 1) = ((if (wfF h k).1 = -1 then nI k else (wfF h k).1), nI k) := by
  show (if h k then _ else _) = _
  rw [if_pos e]
theorem wfF_f {h : Nat → Bool} {k : Nat} (e : h k = false) : wfF h (k + 1) = wfF h k := by
  show (if h k then _ else _) = _
  rw [if_neg (by rw [e]; decide)]
theorem bI_c {b c : Bool} (h : b = c) : bI b = bI c := by rw [h]
set_option maxHeartbeats 4000000 in
set_option maxRecDepth 100000 in
theorem c_J6_bitCount_0f7a4 (l : Launch) (x : Int32) : k_M l yJ6_bitCount_0f7a4 wsJ6_bitCount_0f7a4 ({ frames := 0, cells := 0, slots := 0, locals := 0 } : Room) [.int x] k_tt (some (.int (bcJ x))) := by
  refine k_head (cc := cJ6_bitCount_0f7a4) (maxL := 1) (ret := some .int) [(0, .int x)] (by decide) rfl (Nat.le_of_ble_eq_true rfl) rfl ?_
  intro p e s m below meth c ls hx hb hr hml hown hts hlocks hname hB hl
  have hown : s.vm.findClass RJ6 = some m.cls := hown
  refine lv_iload_n hx hb dJ6_bitCount_0f7a4_0 rfl (lv_at hl 0 rfl) ?_
  refine lv_iload_n hx hb dJ6_bitCount_0f7a4_1 rfl (lv_at hl 0 rfl) ?_
  refine lv_iconst (v := nI 1) hx hb dJ6_bitCount_0f7a4_2 (by decide) ?_
  refine lv_iushr (v := (x.toUInt32 >>> ((nI 1).toUInt32 &&& Int32.toUInt32 31)).toInt32) hx hb dJ6_bitCount_0f7a4_3 rfl ?_
  refine lv_ldcw (own := RJ6) (v := 1431655765) hx hb hown (hts (.constant RJ6 265 (1431655765)) (by decide +kernel)) dJ6_bitCount_0f7a4_4 ?_
  refine lv_iand hx hb dJ6_bitCount_0f7a4_7 ?_
  refine lv_isub hx hb dJ6_bitCount_0f7a4_8 ?_
  refine lv_as (y := bc1 x) (rfl) ?_
  refine lv_istore_n (lv' := [(0, .int (bc1 x))]) hx hb dJ6_bitCount_0f7a4_9 rfl hl (by decide) rfl (fun ls hl => ?_)
  refine lv_iload_n hx hb dJ6_bitCount_0f7a4_10 rfl (lv_at hl 0 rfl) ?_
  refine lv_ldcw (own := RJ6) (v := 858993459) hx hb hown (hts (.constant RJ6 266 (858993459)) (by decide +kernel)) dJ6_bitCount_0f7a4_11 ?_
  refine lv_iand hx hb dJ6_bitCount_0f7a4_14 ?_
  refine lv_iload_n hx hb dJ6_bitCount_0f7a4_15 rfl (lv_at hl 0 rfl) ?_
  refine lv_iconst (v := nI 2) hx hb dJ6_bitCount_0f7a4_16 (by decide) ?_
  refine lv_iushr (v := ((bc1 x).toUInt32 >>> ((nI 2).toUInt32 &&& Int32.toUInt32 31)).toInt32) hx hb dJ6_bitCount_0f7a4_17 rfl ?_
  refine lv_ldcw (own := RJ6) (v := 858993459) hx hb hown (hts (.constant RJ6 266 (858993459)) (by decide +kernel)) dJ6_bitCount_0f7a4_18 ?_
  refine lv_iand hx hb dJ6_bitCount_0f7a4_21 ?_
  refine lv_iadd hx hb dJ6_bitCount_0f7a4_22 ?_
  refine lv_as (y := bc2 (bc1 x)) (rfl) ?_
  refine lv_istore_n (lv' := [(0, .int (bc2 (bc1 x)))]) hx hb dJ6_bitCount_0f7a4_23 rfl hl (by decide) rfl (fun ls hl => ?_)
  refine lv_iload_n hx hb dJ6_bitCount_0f7a4_24 rfl (lv_at hl 0 rfl) ?_
  refine lv_iload_n hx hb dJ6_bitCount_0f7a4_25 rfl (lv_at hl 0 rfl) ?_
  refine lv_iconst (v := nI 4) hx hb dJ6_bitCount_0f7a4_26 (by decide) ?_
  refine lv_iushr (v := ((bc2 (bc1 x)).toUInt32 >>> ((nI 4).toUInt32 &&& Int32.toUInt32 31)).toInt32) hx hb dJ6_bitCount_0f7a4_27 rfl ?_
  refine lv_iadd hx hb dJ6_bitCount_0f7a4_28 ?_
  refine lv_ldcw (own := RJ6) (v := 252645135) hx hb hown (hts (.constant RJ6 267 (252645135)) (by decide +kernel)) dJ6_bitCount_0f7a4_29 ?_
  refine lv_iand hx hb dJ6_bitCount_0f7a4_32 ?_
  refine lv_as (y := bc3 (bc2 (bc1 x))) (rfl) ?_
  refine lv_istore_n (lv' := [(0, .int (bc3 (bc2 (bc1 x))))]) hx hb dJ6_bitCount_0f7a4_33 rfl hl (by decide) rfl (fun ls hl => ?_)
  refine lv_iload_n hx hb dJ6_bitCount_0f7a4_34 rfl (lv_at hl 0 rfl) ?_
  refine lv_iload_n hx hb dJ6_bitCount_0f7a4_35 rfl (lv_at hl 0 rfl) ?_
  refine lv_bipush (v := nI 8) hx hb dJ6_bitCount_0f7a4_36 (by decide) ?_
  refine lv_iushr (v := ((bc3 (bc2 (bc1 x))).toUInt32 >>> ((nI 8).toUInt32 &&& Int32.toUInt32 31)).toInt32) hx hb dJ6_bitCount_0f7a4_38 rfl ?_
  refine lv_iadd hx hb dJ6_bitCount_0f7a4_39 ?_
  refine lv_as (y := bc4 (bc3 (bc2 (bc1 x)))) (rfl) ?_
  refine lv_istore_n (lv' := [(0, .int (bc4 (bc3 (bc2 (bc1 x)))))]) hx hb dJ6_bitCount_0f7a4_40 rfl hl (by decide) rfl (fun ls hl => ?_)
  refine lv_iload_n hx hb dJ6_bitCount_0f7a4_41 rfl (lv_at hl 0 rfl) ?_
  refine lv_iload_n hx hb dJ6_bitCount_0f7a4_42 rfl (lv_at hl 0 rfl) ?_
  refine lv_bipush (v := nI 16) hx hb dJ6_bitCount_0f7a4_43 (by decide) ?_
  refine lv_iushr (v := ((bc4 (bc3 (bc2 (bc1 x)))).toUInt32 >>> ((nI 16).toUInt32 &&& Int32.toUInt32 31)).toInt32) hx hb dJ6_bitCount_0f7a4_45 rfl ?_
  refine lv_iadd hx hb dJ6_bitCount_0f7a4_46 ?_
  refine lv_istore_n (lv' := [(0, .int ((bc4 (bc3 (bc2 (bc1 x)))) + (((bc4 (bc3 (bc2 (bc1 x)))).toUInt32 >>> ((nI 16).toUInt32 &&& Int32.toUInt32 31)).toInt32)))]) hx hb dJ6_bitCount_0f7a4_47 rfl hl (by decide) rfl (fun ls hl => ?_)
  refine lv_iload_n hx hb dJ6_bitCount_0f7a4_48 rfl (lv_at hl 0 rfl) ?_
  refine lv_bipush (v := nI 63) hx hb dJ6_bitCount_0f7a4_49 (by decide) ?_
  refine lv_iand hx hb dJ6_bitCount_0f7a4_51 ?_
  exact k_iret hx hb hr hlocks dJ6_bitCount_0f7a4_52 (rfl)
set_option maxHeartbeats 4000000 in
set_option maxRecDepth 100000 in
theorem c_X0_differing (l : Launch) (x y : Int32) (h1 : S25 x) (h2 : S25 y) : k_M l yX0_differing wsX0_differing ({ frames := 1, cells := 0, slots := 0, locals := 20 } : Room) [.int x, .int y] k_tt (some (.int (df x y))) := by
  refine k_head (cc := cX0_differing) (maxL := 2) (ret := some .int) [(0, .int x), (1, .int y)] (by decide) rfl (Nat.le_of_ble_eq_true rfl) rfl ?_
  intro p e s m below meth c ls hx hb hr hml hown hts hlocks hname hB hl
  have hown : s.vm.findClass RX0 = some m.cls := hown
  refine lv_iload_n hx hb dX0_differing_0 rfl (lv_at hl 0 rfl) ?_
  refine lv_iload_n hx hb dX0_differing_1 rfl (lv_at hl 1 rfl) ?_
  refine lv_ixor hx hb dX0_differing_2 ?_
  refine k_callSi (As := [.int (x ^^^ y)]) (rest := []) ⟨hx, hb, hml, hown, hts⟩ (c_J6_bitCount_0f7a4 l (x ^^^ y)) (va_cwS 1 hts gX0_differing_J6_bitCount_0f7a4 rfl rfl rfl (by decide +kernel) ⟨Nat.le_of_ble_eq_true rfl, Nat.le_of_ble_eq_true rfl⟩) k_bl_tt (fun _ _ _ => trivial) rfl hl.1 rfl (Nat.le_of_ble_eq_true rfl) dX0_differing_3 ⟨Nat.zero_le _, Nat.zero_le _⟩ ?_
  exact k_iret hx hb hr hlocks dX0_differing_6 (bc_df h1 h2)
set_option maxHeartbeats 4000000 in
set_option maxRecDepth 100000 in
theorem c_X0_lineCells (l : Launch) (a b c1 d1 : Nat) (ha : a < 5) (hb5 : b < 5) (hc : c1 < 5) (hd : d1 < 5) : k_M l yX0_lineCells wsX0_lineCells ({ frames := 1, cells := 0, slots := 0, locals := 23 } : Room) [.int (nI a), .int (nI b), .int (nI c1), .int (nI d1)] k_tt (some (.int (lcF (nI a) (nI b) (dr a c1) (dr b d1) (lnN a b c1 d1)))) := by
  refine k_head (cc := cX0_lineCells) (maxL := 9) (ret := some .int) [(0, .int (nI a)), (1, .int (nI b)), (2, .int (nI c1)), (3, .int (nI d1))] (by decide) rfl (Nat.le_of_ble_eq_true rfl) rfl ?_
  intro p e s m below meth c ls hx hb hr hml hown hts hlocks hname hB hl
  have hown : s.vm.findClass RX0 = some m.cls := hown
  have hda : dist a c1 < 5 := dist_lt a ha c1 hc
  have hdb : dist b d1 < 5 := dist_lt b hb5 d1 hd
  have hmx : max (dist a c1) (dist b d1) < 5 := by omega
  have hln : lnN a b c1 d1 = max (dist a c1) (dist b d1) + 1 := rfl
  refine lv_iload_n hx hb dX0_lineCells_0 rfl (lv_at hl 2 rfl) ?_
  refine lv_iload_n hx hb dX0_lineCells_1 rfl (lv_at hl 0 rfl) ?_
  refine lv_isub hx hb dX0_lineCells_2 ?_
  refine va_mabs (index := 154) hx hb (by rw [hml]; exact hl.1.symm) hown (hts (.methodLink RX0 154 Lib.Math.abs.name) (by decide +kernel)) (hts (.static Lib.Math.abs.name) (by decide +kernel)) (hts (.initialized "java/lang/Math") (by decide +kernel)) (hts (.code Lib.Math.abs.name Lib.Math.abs.code 1 (some .int)) (by decide +kernel)) (Nat.le_of_ble_eq_true rfl) (Nat.le_of_ble_eq_true rfl) (Nat.le_of_ble_eq_true rfl) (Nat.le_of_ble_eq_true rfl) dX0_lineCells_3 ?_
  refine lv_as (y := nI (dist a c1)) (absd a ha c1 hc) ?_
  refine lv_iload_n hx hb dX0_lineCells_6 rfl (lv_at hl 3 rfl) ?_
  refine lv_iload_n hx hb dX0_lineCells_7 rfl (lv_at hl 1 rfl) ?_
  refine lv_isub hx hb dX0_lineCells_8 ?_
  refine va_mabs (index := 154) hx hb (by rw [hml]; exact hl.1.symm) hown (hts (.methodLink RX0 154 Lib.Math.abs.name) (by decide +kernel)) (hts (.static Lib.Math.abs.name) (by decide +kernel)) (hts (.initialized "java/lang/Math") (by decide +kernel)) (hts (.code Lib.Math.abs.name Lib.Math.abs.code 1 (some .int)) (by decide +kernel)) (Nat.le_of_ble_eq_true rfl) (Nat.le_of_ble_eq_true rfl) (Nat.le_of_ble_eq_true rfl) (Nat.le_of_ble_eq_true rfl) dX0_lineCells_9 ?_
  refine lv_as (y := nI (dist b d1)) (absd b hb5 d1 hd) ?_
  refine va_mmax (index := 161) hx hb (by rw [hml]; exact hl.1.symm) hown (hts (.methodLink RX0 161 Lib.Math.max.name) (by decide +kernel)) (hts (.static Lib.Math.max.name) (by decide +kernel)) (hts (.initialized "java/lang/Math") (by decide +kernel)) (hts (.code Lib.Math.max.name Lib.Math.max.code 2 (some .int)) (by decide +kernel)) (Nat.le_of_ble_eq_true rfl) (Nat.le_of_ble_eq_true rfl) (Nat.le_of_ble_eq_true rfl) (Nat.le_of_ble_eq_true rfl) dX0_lineCells_12 ?_
  refine lv_as (y := nI (max (dist a c1) (dist b d1))) (maxd _ hda _ hdb) ?_
  refine lv_istore (lv' := [(4, .int (nI (max (dist a c1) (dist b d1)))), (0, .int (nI a)), (1, .int (nI b)), (2, .int (nI c1)), (3, .int (nI d1))]) hx hb dX0_lineCells_15 hl (by decide) rfl (fun ls hl => ?_)
  refine lv_iload_n hx hb dX0_lineCells_17 rfl (lv_at hl 1 rfl) ?_
  refine lv_iload_n hx hb dX0_lineCells_18 rfl (lv_at hl 3 rfl) ?_
  refine k_callSi (As := [.int (nI a), .int (nI c1)]) (rest := []) ⟨hx, hb, hml, hown, hts⟩ (c_X0_direction l a c1 (by omega) (by omega)) (va_cwS 2 hts gX0_lineCells_X0_direction rfl rfl rfl (by decide +kernel) ⟨Nat.le_of_ble_eq_true rfl, Nat.le_of_ble_eq_true rfl⟩) k_bl_tt (fun _ _ _ => trivial) rfl hl.1 rfl (Nat.le_of_ble_eq_true rfl) dX0_lineCells_19 ⟨Nat.zero_le _, Nat.zero_le _⟩ ?_
  refine lv_istore (lv' := [(5, .int (dr a c1)), (4, .int (nI (max (dist a c1) (dist b d1)))), (0, .int (nI a)), (1, .int (nI b)), (2, .int (nI c1)), (3, .int (nI d1))]) hx hb dX0_lineCells_22 hl (by decide) rfl (fun ls hl => ?_)
  refine lv_iload_n hx hb dX0_lineCells_24 rfl (lv_at hl 3 rfl) ?_
  refine lv_iload_n hx hb dX0_lineCells_25 rfl (lv_at hl 5 rfl) ?_
  refine k_callSi (As := [.int (nI b), .int (nI d1)]) (rest := []) ⟨hx, hb, hml, hown, hts⟩ (c_X0_direction l b d1 (by omega) (by omega)) (va_cwS 2 hts gX0_lineCells_X0_direction rfl rfl rfl (by decide +kernel) ⟨Nat.le_of_ble_eq_true rfl, Nat.le_of_ble_eq_true rfl⟩) k_bl_tt (fun _ _ _ => trivial) rfl hl.1 rfl (Nat.le_of_ble_eq_true rfl) dX0_lineCells_26 ⟨Nat.zero_le _, Nat.zero_le _⟩ ?_
  refine lv_istore (lv' := [(6, .int (dr b d1)), (5, .int (dr a c1)), (4, .int (nI (max (dist a c1) (dist b d1)))), (0, .int (nI a)), (1, .int (nI b)), (2, .int (nI c1)), (3, .int (nI d1))]) hx hb dX0_lineCells_29 hl (by decide) rfl (fun ls hl => ?_)
  refine lv_iconst (v := nI 0) hx hb dX0_lineCells_31 (by decide) ?_
  refine lv_istore (lv' := [(7, .int (nI 0)), (6, .int (dr b d1)), (5, .int (dr a c1)), (4, .int (nI (max (dist a c1) (dist b d1)))), (0, .int (nI a)), (1, .int (nI b)), (2, .int (nI c1)), (3, .int (nI d1))]) hx hb dX0_lineCells_32 hl (by decide) rfl (fun ls hl => ?_)
  refine lv_iconst (v := nI 0) hx hb dX0_lineCells_34 (by decide) ?_
  refine lv_istore (lv' := [(8, .int (nI 0)), (7, .int (nI 0)), (6, .int (dr b d1)), (5, .int (dr a c1)), (4, .int (nI (max (dist a c1) (dist b d1)))), (0, .int (nI a)), (1, .int (nI b)), (2, .int (nI c1)), (3, .int (nI d1))]) hx hb dX0_lineCells_35 hl (by decide) rfl (fun ls hl => ?_)
  refine W.loop (fun i ls => lv_has ls 9 [(0, .int (nI a)), (1, .int (nI b)), (2, .int (nI c1)), (3, .int (nI d1)), (4, .int (nI (max (dist a c1) (dist b d1)))), (5, .int (dr a c1)), (6, .int (dr b d1)), (7, .int (lcF (nI a) (nI b) (dr a c1) (dr b d1) i)), (8, .int (nI i))]) (lnN a b c1 d1) (0) (by omega) (lv_sub hl [5, 6, 7, 8, 4, 3, 2, 1, 0] rfl) ?_
  intro i ls hi_37 hI_37 ih_37
  have hl := hI_37
  refine lv_iload hx hb dX0_lineCells_37 (lv_at hl 8 rfl) ?_
  refine lv_iload hx hb dX0_lineCells_39 (lv_at hl 4 rfl) ?_
  refine n_icmp_gt (tgt := 74) hx hb dX0_lineCells_41 (by decide) (by omega) (by omega) (fun c_41 => ?_) (fun c_41 => ?_)
  · refine lv_iload hx hb dX0_lineCells_74 (lv_at hl 7 rfl) ?_
    exact k_iret hx hb hr hlocks dX0_lineCells_76 (by rw [show i = lnN a b c1 d1 from by unfold lnN at hi_37 ⊢; omega])
  · refine lv_iload hx hb dX0_lineCells_44 (lv_at hl 7 rfl) ?_
    refine lv_iconst (v := nI 1) hx hb dX0_lineCells_46 (by decide) ?_
    refine lv_iload_n hx hb dX0_lineCells_47 rfl (lv_at hl 1 rfl) ?_
    refine lv_iload hx hb dX0_lineCells_48 (lv_at hl 8 rfl) ?_
    refine lv_iload hx hb dX0_lineCells_50 (lv_at hl 6 rfl) ?_
    refine lv_imul hx hb dX0_lineCells_52 ?_
    refine lv_iadd hx hb dX0_lineCells_53 ?_
    refine lv_iconst (v := nI 5) hx hb dX0_lineCells_54 (by decide) ?_
    refine lv_imul hx hb dX0_lineCells_55 ?_
    refine lv_iload_n hx hb dX0_lineCells_56 rfl (lv_at hl 0 rfl) ?_
    refine lv_iadd hx hb dX0_lineCells_57 ?_
    refine lv_iload hx hb dX0_lineCells_58 (lv_at hl 8 rfl) ?_
    refine lv_iload hx hb dX0_lineCells_60 (lv_at hl 5 rfl) ?_
    refine lv_imul hx hb dX0_lineCells_62 ?_
    refine lv_iadd hx hb dX0_lineCells_63 ?_
    refine lv_ishl hx hb dX0_lineCells_64 ?_
    refine lv_ior hx hb dX0_lineCells_65 ?_
    refine lv_as (y := lcF (nI a) (nI b) (dr a c1) (dr b d1) (i + 1)) (rfl) ?_
    refine lv_istore (lv' := [(7, .int (lcF (nI a) (nI b) (dr a c1) (dr b d1) (i + 1))), (0, .int (nI a)), (1, .int (nI b)), (2, .int (nI c1)), (3, .int (nI d1)), (4, .int (nI (max (dist a c1) (dist b d1)))), (5, .int (dr a c1)), (6, .int (dr b d1)), (8, .int (nI i))]) hx hb dX0_lineCells_66 hl (by decide) rfl (fun ls hl => ?_)
    refine lv_iinc (v := nI (i + 1)) (lv' := [(8, .int (nI (i + 1))), (7, .int (lcF (nI a) (nI b) (dr a c1) (dr b d1) (i + 1))), (0, .int (nI a)), (1, .int (nI b)), (2, .int (nI c1)), (3, .int (nI d1)), (4, .int (nI (max (dist a c1) (dist b d1)))), (5, .int (dr a c1)), (6, .int (dr b d1))]) hx hb dX0_lineCells_68 hl (k := 8) rfl (nI_inc _) (by decide) rfl (fun ls hl => ?_)
    refine lv_goto (tgt := 37) hx hb dX0_lineCells_71 (by decide) ?_
    exact ih_37 _ (by unfold lnN; omega) (lv_sub hl [2, 3, 4, 5, 6, 7, 8, 1, 0] rfl)
set_option maxHeartbeats 4000000 in
set_option maxRecDepth 100000 in
theorem c_X0_hasColumn (l : Launch) (s0 : Int32) (x : Nat) (hx5 : x < 5) : k_M l yX0_hasColumn wsX0_hasColumn ({ frames := 2, cells := 0, slots := 0, locals := 51 } : Room) [.int s0, .int (nI x)] k_tt (some (.int (bI (hcC s0 x)))) := by
  refine k_head (cc := cX0_hasColumn) (maxL := 2) (ret := some .boolean) [(0, .int s0), (1, .int (nI x))] (by decide) rfl (Nat.le_of_ble_eq_true rfl) rfl ?_
  intro p e s m below meth c ls hx hb hr hml hown hts hlocks hname hB hl
  have hown : s.vm.findClass RX0 = some m.cls := hown
  refine lv_iload_n hx hb dX0_hasColumn_0 rfl (lv_at hl 0 rfl) ?_
  refine lv_iload_n hx hb dX0_hasColumn_1 rfl (lv_at hl 1 rfl) ?_
  refine lv_iconst (v := nI 0) hx hb dX0_hasColumn_2 (by decide) ?_
  refine lv_iload_n hx hb dX0_hasColumn_3 rfl (lv_at hl 1 rfl) ?_
  refine lv_iconst (v := nI 4) hx hb dX0_hasColumn_4 (by decide) ?_
  refine k_callSi (As := [.int (nI x), .int (nI 0), .int (nI x), .int (nI 4)]) (rest := [.int s0]) ⟨hx, hb, hml, hown, hts⟩ (c_X0_lineCells l x 0 x 4 (by omega) (by omega) (by omega) (by omega)) (va_cwS 4 hts gX0_hasColumn_X0_lineCells rfl rfl rfl (by decide +kernel) ⟨Nat.le_of_ble_eq_true rfl, Nat.le_of_ble_eq_true rfl⟩) k_bl_tt (fun _ _ _ => trivial) rfl hl.1 rfl (Nat.le_of_ble_eq_true rfl) dX0_hasColumn_5 ⟨Nat.zero_le _, Nat.zero_le _⟩ ?_
  refine lv_iand hx hb dX0_hasColumn_8 ?_
  refine lv_as (y := s0 &&& colm x) (rfl) ?_
  refine lv_if_eq (tgt := 16) hx hb dX0_hasColumn_9 (by decide) (fun c_9 => ?_) (fun c_9 => ?_)
  · refine lv_iconst (v := nI 0) hx hb dX0_hasColumn_16 (by decide) ?_
    exact k_zret hx hb hr hlocks dX0_hasColumn_17 (by simp [hcC, c_9]; rfl)
  · refine lv_iconst (v := nI 1) hx hb dX0_hasColumn_12 (by decide) ?_
    refine lv_goto (tgt := 17) hx hb dX0_hasColumn_13 (by decide) ?_
    exact k_zret hx hb hr hlocks dX0_hasColumn_17 (by simp [hcC, c_9]; rfl)
set_option maxHeartbeats 4000000 in
set_option maxRecDepth 100000 in
theorem c_X0_shapeWidth (l : Launch) (s0 : Int32) : k_M l yX0_shapeWidth wsX0_shapeWidth ({ frames := 3, cells := 0, slots := 0, locals := 72 } : Room) [.int s0] k_tt (some (.int (wdF (hcC s0)))) := by
  refine k_head (cc := cX0_shapeWidth) (maxL := 4) (ret := some .int) [(0, .int s0)] (by decide) rfl (Nat.le_of_ble_eq_true rfl) rfl ?_
  intro p e s m below meth c ls hx hb hr hml hown hts hlocks hname hB hl
  have hown : s.vm.findClass RX0 = some m.cls := hown
  refine lv_iconst (v := (-1)) hx hb dX0_shapeWidth_0 (by decide) ?_
  refine lv_istore_n (lv' := [(1, .int (-1)), (0, .int s0)]) hx hb dX0_shapeWidth_1 rfl hl (by decide) rfl (fun ls hl => ?_)
  refine lv_iconst (v := (-1)) hx hb dX0_shapeWidth_2 (by decide) ?_
  refine lv_istore_n (lv' := [(2, .int (-1)), (1, .int (-1)), (0, .int s0)]) hx hb dX0_shapeWidth_3 rfl hl (by decide) rfl (fun ls hl => ?_)
  refine lv_iconst (v := nI 0) hx hb dX0_shapeWidth_4 (by decide) ?_
  refine lv_istore_n (lv' := [(3, .int (nI 0)), (2, .int (-1)), (1, .int (-1)), (0, .int s0)]) hx hb dX0_shapeWidth_5 rfl hl (by decide) rfl (fun ls hl => ?_)
  refine W.loop (fun i ls => ∃ (f1 : Int32) (l1 : Int32), (f1 = (wfF (hcC s0) i).1) ∧ (l1 = (wfF (hcC s0) i).2) ∧ lv_has ls 4 [(0, .int s0), (1, .int f1), (2, .int l1), (3, .int (nI i))]) (5) (0) (by omega) ⟨(-1), (-1), rfl, rfl, lv_sub hl [3, 2, 1, 0] rfl⟩ ?_
  intro i ls hi_6 hI_6 ih_6
  obtain ⟨f1, l1, hf0_6, hf1_6, hl⟩ := hI_6
  refine lv_iload_n hx hb dX0_shapeWidth_6 rfl (lv_at hl 3 rfl) ?_
  refine lv_iconst (v := nI 5) hx hb dX0_shapeWidth_7 (by decide) ?_
  refine n_icmp_ge (tgt := 38) hx hb dX0_shapeWidth_8 (by decide) (by omega) (by omega) (fun c_8 => ?_) (fun c_8 => ?_)
  · refine lv_iload_n hx hb dX0_shapeWidth_38 rfl (lv_at hl 1 rfl) ?_
    refine lv_iconst (v := (-1)) hx hb dX0_shapeWidth_39 (by decide) ?_
    refine lv_icmp_ne (tgt := 47) hx hb dX0_shapeWidth_40 (by decide) (fun c_40 => ?_) (fun c_40 => ?_)
    · refine lv_iload_n hx hb dX0_shapeWidth_47 rfl (lv_at hl 2 rfl) ?_
      refine lv_iload_n hx hb dX0_shapeWidth_48 rfl (lv_at hl 1 rfl) ?_
      refine lv_isub hx hb dX0_shapeWidth_49 ?_
      refine lv_iconst (v := nI 1) hx hb dX0_shapeWidth_50 (by decide) ?_
      refine lv_iadd hx hb dX0_shapeWidth_51 ?_
      have h5 : i = 5 := by omega
      subst h5
      exact k_iret hx hb hr hlocks dX0_shapeWidth_52 (by simp [wdF, ← hf0_6, ← hf1_6, c_40])
    · refine lv_iconst (v := nI 2) hx hb dX0_shapeWidth_43 (by decide) ?_
      refine lv_goto (tgt := 52) hx hb dX0_shapeWidth_44 (by decide) ?_
      have h5 : i = 5 := by omega
      subst h5
      exact k_iret hx hb hr hlocks dX0_shapeWidth_52 (by simp [wdF, ← hf0_6, ← hf1_6, c_40])
  · refine lv_iload_n hx hb dX0_shapeWidth_11 rfl (lv_at hl 0 rfl) ?_
    refine lv_iload_n hx hb dX0_shapeWidth_12 rfl (lv_at hl 3 rfl) ?_
    refine k_callSi (As := [.int s0, .int (nI i)]) (rest := []) ⟨hx, hb, hml, hown, hts⟩ (c_X0_hasColumn l s0 i (by omega)) (va_cwS 2 hts gX0_shapeWidth_X0_hasColumn rfl rfl rfl (by decide +kernel) ⟨Nat.le_of_ble_eq_true rfl, Nat.le_of_ble_eq_true rfl⟩) k_bl_tt (fun _ _ _ => trivial) rfl hl.1 rfl (Nat.le_of_ble_eq_true rfl) dX0_shapeWidth_13 ⟨Nat.zero_le _, Nat.zero_le _⟩ ?_
    refine b_if_eq (tgt := 32) hx hb dX0_shapeWidth_16 (by decide) (fun c_16 => ?_) (fun c_16 => ?_)
    · refine lv_iinc (v := nI (i + 1)) (lv' := [(3, .int (nI (i + 1))), (0, .int s0), (1, .int f1), (2, .int l1)]) hx hb dX0_shapeWidth_32 hl (k := 3) rfl (nI_inc _) (by decide) rfl (fun ls hl => ?_)
      refine lv_goto (tgt := 6) hx hb dX0_shapeWidth_35 (by decide) ?_
      exact ih_6 _ (by omega) ⟨f1, l1, by rw [wfF_f c_16]; exact hf0_6, by rw [wfF_f c_16]; exact hf1_6, lv_sub hl [1, 2, 3, 0] rfl⟩
    · refine lv_iload_n hx hb dX0_shapeWidth_19 rfl (lv_at hl 1 rfl) ?_
      refine lv_iconst (v := (-1)) hx hb dX0_shapeWidth_20 (by decide) ?_
      refine lv_icmp_ne (tgt := 28) hx hb dX0_shapeWidth_21 (by decide) (fun c_21 => ?_) (fun c_21 => ?_)
      · refine lv_iload_n hx hb dX0_shapeWidth_28 rfl (lv_at hl 1 rfl) ?_
        refine lv_istore_n (lv' := [(1, .int f1), (0, .int s0), (2, .int l1), (3, .int (nI i))]) hx hb dX0_shapeWidth_29 rfl hl (by decide) rfl (fun ls hl => ?_)
        refine lv_iload_n hx hb dX0_shapeWidth_30 rfl (lv_at hl 3 rfl) ?_
        refine lv_istore_n (lv' := [(2, .int (nI i)), (1, .int f1), (0, .int s0), (3, .int (nI i))]) hx hb dX0_shapeWidth_31 rfl hl (by decide) rfl (fun ls hl => ?_)
        refine lv_iinc (v := nI (i + 1)) (lv' := [(3, .int (nI (i + 1))), (2, .int (nI i)), (1, .int f1), (0, .int s0)]) hx hb dX0_shapeWidth_32 hl (k := 3) rfl (nI_inc _) (by decide) rfl (fun ls hl => ?_)
        refine lv_goto (tgt := 6) hx hb dX0_shapeWidth_35 (by decide) ?_
        exact ih_6 _ (by omega) ⟨f1, nI i, by rw [wfF_t c_16, ← hf0_6]; exact (if_neg c_21).symm, by rw [wfF_t c_16], lv_sub hl [3, 2, 1, 0] rfl⟩
      · refine lv_iload_n hx hb dX0_shapeWidth_24 rfl (lv_at hl 3 rfl) ?_
        refine lv_goto (tgt := 29) hx hb dX0_shapeWidth_25 (by decide) ?_
        refine lv_istore_n (lv' := [(1, .int (nI i)), (0, .int s0), (2, .int l1), (3, .int (nI i))]) hx hb dX0_shapeWidth_29 rfl hl (by decide) rfl (fun ls hl => ?_)
        refine lv_iload_n hx hb dX0_shapeWidth_30 rfl (lv_at hl 3 rfl) ?_
        refine lv_istore_n (lv' := [(2, .int (nI i)), (1, .int (nI i)), (0, .int s0), (3, .int (nI i))]) hx hb dX0_shapeWidth_31 rfl hl (by decide) rfl (fun ls hl => ?_)
        refine lv_iinc (v := nI (i + 1)) (lv' := [(3, .int (nI (i + 1))), (2, .int (nI i)), (1, .int (nI i)), (0, .int s0)]) hx hb dX0_shapeWidth_32 hl (k := 3) rfl (nI_inc _) (by decide) rfl (fun ls hl => ?_)
        refine lv_goto (tgt := 6) hx hb dX0_shapeWidth_35 (by decide) ?_
        exact ih_6 _ (by omega) ⟨nI i, nI i, by rw [wfF_t c_16, ← hf0_6]; exact (if_pos c_21).symm, by rw [wfF_t c_16], lv_sub hl [3, 2, 1, 0] rfl⟩
end
section
/-! the pure functions over states -/
def ix (n : Nat) : Int32 := if n = 8 then -1 else nI n
theorem ix_lt {n : Nat} (h : n < 8) : ix n = nI n := by rw [ix, if_neg (by omega)]
theorem ix_8 : ix 8 = -1 := rfl
theorem ix_0 {n : Nat} (h : n ≤ 8) : ix n = 0 ↔ n = 0 := by
  have h2 : ∀ n, n < 9 → (ix n = 0 ↔ n = 0) := by decide
  exact h2 n (by omega)
theorem ix_m1 {n : Nat} (h : n ≤ 8) : ix n = -1 ↔ n = 8 := by
  have h2 : ∀ n, n < 9 → (ix n = -1 ↔ n = 8) := by decide
  exact h2 n (by omega)
theorem ix_eq {n i : Nat} (h : n ≤ 8) (hi : i < 8) : nI i = ix n ↔ i = n := by
  have h2 : ∀ n, n < 9 → ∀ i, i < 8 → (nI i = ix n ↔ i = n) := by decide
  exact h2 n (by omega) i hi
def nrN (d : Nat → Int32) (but : Nat) : Nat → Nat
  | 0 => 8
  | g + 1 => if g ≠ but ∧ (nrN d but g = 8 ∨ d g < d (nrN d but g)) then g else nrN d but g
theorem nrN_s (d : Nat → Int32) (but g : Nat) : nrN d but (g + 1) = if g ≠ but ∧ (nrN d but g = 8 ∨ d g < d (nrN d but g)) then g else nrN d but g := rfl
def nrS (but : Nat) : Nat := if but = 0 then 1 else 0
theorem nr_start (d : Nat → Int32) (but : Nat) : nrN d but (nrS but + 1) = nrS but := by
  unfold nrS
  by_cases h : but = 0
  · subst h
    simp [nrN]
  · have h2 : ¬ 0 = but := fun q => h q.symm
    simp [nrN, h, h2]
theorem nr_eq {d : Nat → Int32} {but i : Nat} (h : i = but) : nrN d but (i + 1) = nrN d but i := by
  rw [nrN_s, if_neg (fun q => q.1 h)]
theorem nr_lt {d : Nat → Int32} {but i n : Nat} (h : i ≠ but) (hn : n = nrN d but i) (hd : d i < d n) : i = nrN d but (i + 1) := by
  rw [nrN_s, if_pos ⟨h, Or.inr (by rw [← hn]; exact hd)⟩]
theorem nr_ge {d : Nat → Int32} {but i n : Nat} (hn : n = nrN d but i) (h8 : n < 8) (hd : ¬ d i < d n) : n = nrN d but (i + 1) := by
  rw [nrN_s, if_neg, ← hn]
  rintro ⟨-, q | q⟩
  · omega
  · exact hd (by rw [hn]; exact q)
theorem nr_mono {d : Nat → Int32} {but : Nat} : ∀ g, nrN d but g ≠ 8 → g ≤ 8 → nrN d but (g + 1) ≠ 8 ∨ g = 8 := by
  intro g h hg
  by_cases h8 : g = 8
  · exact Or.inr h8
  · refine Or.inl ?_
    rw [nrN_s]
    split
    · omega
    · exact h
theorem nr_lt8 (d : Nat → Int32) (but : Nat) : nrN d but 8 < 8 := by
  have key : ∀ g, nrS but + 1 ≤ g → g ≤ 8 → nrN d but g < 8 := by
    intro g
    induction g with
    | zero => intro h; omega
    | succ g ih =>
      intro h1 h2
      by_cases h : nrS but + 1 = g + 1
      · have h3 := nr_start d but
        rw [h] at h3
        have h4 : nrS but < 2 := by unfold nrS; split <;> decide
        omega
      · have h3 := ih (by omega) (by omega)
        rw [nrN_s]
        split <;> omega
  have h4 : nrS but < 2 := by unfold nrS; split <;> decide
  exact key 8 (by omega) (Nat.le_refl _)
def rdG (d : Nat → Int32) (ds : Int32) : Nat := if d (nrN d (nrN d 8 8) 8) - d (nrN d 8 8) < ds then nrN d (nrN d 8 8) 8 else nrN d 8 8
theorem rdG_lt (d : Nat → Int32) (ds : Int32) : rdG d ds < 8 := by
  unfold rdG
  split
  · exact nr_lt8 _ _
  · exact nr_lt8 _ _
def rtN (r : Nat → Nat) : Nat → Nat
  | 0 => 0
  | j + 1 => rtN r j + r j * 8 ^ j
theorem rtN_lt {r : Nat → Nat} (h : ∀ j, r j < 8) : ∀ k, rtN r k < 8 ^ k
  | 0 => Nat.one_pos
  | k + 1 => by
    have h1 := rtN_lt h k
    have h2 := h k
    show rtN r k + r k * 8 ^ k < 8 ^ k * 8
    have h3 : r k * 8 ^ k ≤ 7 * 8 ^ k := Nat.mul_le_mul_right _ (by omega)
    omega
theorem rt_or {a b j : Nat} (ha : a < 8 ^ j) (hb : b < 8) (hj : j < 5) : nI a ||| (nI b <<< (nI (3 * j) &&& 31)) = nI (a + b * 8 ^ j) := by
  have hs : ∀ j, j < 5 → (((nI (3 * j) &&& 31).toBitVec.smod 32).toNat) = 3 * j := by decide
  have e8 : 8 ^ j = 2 ^ (3 * j) := by rw [Nat.pow_mul]
  have h5 : 8 ^ j ≤ 4096 := Nat.pow_le_pow_right (n := 8) (by decide) (show j ≤ 4 by omega)
  have h6 : b * 8 ^ j ≤ 7 * 8 ^ j := Nat.mul_le_mul_right _ (by omega)
  rw [pk_shlN _ (3 * j) (hs j hj) (by rw [← e8]; omega), Int32.or_comm, ← e8, Nat.mul_comm b, e8, fa_or_sum b (by rw [← e8]; exact ha), Nat.add_comm]
def anyB (p : Nat → Bool) : Nat → Bool
  | 0 => false
  | n + 1 => anyB p n || p n
theorem anyB_t {p : Nat → Bool} {i : Nat} (h : p i = true) : ∀ {n : Nat}, i < n → anyB p n = true := by
  intro n
  induction n with
  | zero => intro q; omega
  | succ n ih =>
    intro q
    by_cases e : i = n
    · subst e; simp [anyB, h]
    · simp [anyB, ih (by omega)]
theorem anyB_cong {p q : Nat → Bool} : ∀ {n : Nat}, (∀ i, i < n → p i = q i) → anyB p n = anyB q n := by
  intro n
  induction n with
  | zero => intro _; rfl
  | succ n ih => intro h; rw [anyB, anyB, ih (fun i hi => h i (by omega)), h n (by omega)]
theorem anyB_iff {p : Nat → Bool} : ∀ {n : Nat}, anyB p n = true ↔ ∃ i, i < n ∧ p i = true := by
  intro n
  induction n with
  | zero =>
    constructor
    · intro h
      cases h
    · rintro ⟨i, h, -⟩
      omega
  | succ n ih =>
    rw [anyB, Bool.or_eq_true, ih]
    constructor
    · rintro (⟨i, h1, h2⟩ | h)
      · exact ⟨i, by omega, h2⟩
      · exact ⟨n, by omega, h⟩
    · rintro ⟨i, h1, h2⟩
      by_cases e : i = n
      · subst e; exact Or.inr h2
      · exact Or.inl ⟨i, by omega, h2⟩
def pwC (wd : Nat → Int32) (sp : Nat → Int32) (t : Nat) : Nat → Int32
  | 0 => nI 0
  | j + 1 => if 0 < j then (pwC wd sp t j + wd (dg t j)) + sp (dg t j * 8 + dg t (j - 1)) else pwC wd sp t j + wd (dg t j)
def pwR (wd : Nat → Int32) (sp : Nat → Int32) (t n : Nat) : Nat → Int32
  | 0 => nI 0
  | j + 1 => (pwR wd sp t n j + wd (dg t (n - 1 - j))) + (if 0 < j then sp (8 * dg t (n - 1 - (j - 1)) + dg t (n - 1 - j)) else nI 0)
def plF (x : Int32) : Int32 := if nI 10 < x then (if nI 20 < x then (if nI 30 < x then -1 else nI 10) else nI 7) else nI 4
-- walkers
def fb (b : Nat → Bool) : Nat → Nat
  | 0 => 4
  | n + 1 => if fb b n = 4 ∧ b n = true then n else fb b n
theorem fb_s (b : Nat → Bool) (n : Nat) : fb b (n + 1) = if fb b n = 4 ∧ b n = true then n else fb b n := rfl
theorem fb_stay {b : Nat → Bool} {n e : Nat} (h : fb b n = e) (he : e ≠ 4) : ∀ m, n ≤ m → fb b m = e := by
  intro m
  induction m with
  | zero => intro q; have : n = 0 := by omega
            subst this; exact h
  | succ m ih =>
    intro q
    by_cases e2 : n = m + 1
    · subst e2; exact h
    · have h2 := ih (by omega)
      rw [fb_s, if_neg (fun z => he (by rw [← h2]; exact z.1)), h2]
theorem fb_le (b : Nat → Bool) : ∀ n, n ≤ 4 → fb b n = 4 ∨ (fb b n < n ∧ b (fb b n) = true)
  | 0, _ => Or.inl rfl
  | n + 1, h => by
    rcases fb_le b n (by omega) with q | ⟨q1, q2⟩
    · by_cases hb : b n = true
      · rw [fb_s, if_pos ⟨q, hb⟩]; exact Or.inr ⟨by omega, hb⟩
      · rw [fb_s, if_neg (fun z => hb z.2)]; exact Or.inl q
    · have h3 : fb b n ≠ 4 := by omega
      rw [fb_s, if_neg (fun z => h3 z.1)]
      exact Or.inr ⟨by omega, q2⟩
def nxE (a b : Nat → Bool) : Nat := if fb a 4 = 4 then fb b 4 else fb a 4
def wv (p e : Nat) : Int32 := if e = 4 then -1 else nI (4 * p + e)
theorem wv_m1 {p e : Nat} (hp : p < 8) (he : e ≤ 4) : wv p e = -1 ↔ e = 4 := by
  have h : ∀ p, p < 8 → ∀ e, e < 5 → (wv p e = -1 ↔ e = 4) := by decide
  exact h p hp e (by omega)
theorem wv_lt {p e : Nat} (he : e < 4) : wv p e = nI (4 * p + e) := by rw [wv, if_neg (by omega)]
def nx (told : Nat → Bool) (Ld : Nat → Nat) (tk : Nat → Bool) (p : Nat) : Nat := nxE (fun e => decide (Ld (4 * p + e) ≠ 8) && told (4 * p + e)) (fun e => decide (Ld (4 * p + e) ≠ 8) && !tk (4 * p + e))
theorem nx_lt {told : Nat → Bool} {Ld : Nat → Nat} {tk : Nat → Bool} {p : Nat} : nx told Ld tk p = 4 ∨ (nx told Ld tk p < 4 ∧ Ld (4 * p + nx told Ld tk p) ≠ 8) := by
  unfold nx nxE
  split
  · rcases fb_le (fun e => decide (Ld (4 * p + e) ≠ 8) && !tk (4 * p + e)) 4 (Nat.le_refl _) with q | ⟨q1, q2⟩
    · exact Or.inl q
    · refine Or.inr ⟨q1, ?_⟩
      simp only [Bool.and_eq_true, decide_eq_true_eq] at q2
      exact q2.1
  · rename_i h
    rcases fb_le (fun e => decide (Ld (4 * p + e) ≠ 8) && told (4 * p + e)) 4 (Nat.le_refl _) with q | ⟨q1, q2⟩
    · exact absurd q h
    · refine Or.inr ⟨q1, ?_⟩
      simp only [Bool.and_eq_true, decide_eq_true_eq] at q2
      exact q2.1
def tkA (tk : Nat → Bool) (w : Nat) : Nat → Bool := fun v => tk v || decide (v = w)
def sa (told : Nat → Bool) (Ld : Nat → Nat) (arr : Nat → Bool) : Nat → Nat → Nat → (Nat → Bool) → Int32
  | 0, _, _, _ => -1
  | f + 1, n, p, tk => if arr p then nI n else if nx told Ld tk p = 4 then -1 else sa told Ld arr f (n + 1) (Ld (4 * p + nx told Ld tk p)) (tkA tk (4 * p + nx told Ld tk p))
def pl (told : Nat → Bool) (Ld : Nat → Nat) (arr : Nat → Bool) : Nat → Nat → (Nat → Bool) → Nat
  | 0, p, _ => p
  | f + 1, p, tk => if arr p then p else if nx told Ld tk p = 4 then p else pl told Ld arr f (Ld (4 * p + nx told Ld tk p)) (tkA tk (4 * p + nx told Ld tk p))
def tk0 : Nat → Bool := fun _ => false
/-- the taken exits as bits of an int -/
def tkR (x : Int32) (tk : Nat → Bool) : Prop := ∀ w, w < 32 → (x &&& (nI 1 <<< (nI w &&& 31)) = 0 ↔ tk w = false)
theorem tkR_0 : tkR (nI 0) tk0 := by
  intro w hw
  have h : ∀ w, w < 32 → nI 0 &&& (nI 1 <<< (nI w &&& 31)) = 0 := by decide
  exact ⟨fun _ => rfl, fun _ => h w hw⟩
theorem bitT {x : Int32} {w : Nat} (hw : w < 32) : x &&& (nI 1 <<< (nI w &&& 31)) = 0 ↔ bt x w = false := by
  have h1 : ∀ w, w < 32 → ∀ i, i < 32 → bt (nI 1 <<< (nI w &&& 31)) i = decide (i = w) := by decide +kernel
  constructor
  · intro h
    have h2 : bt (x &&& (nI 1 <<< (nI w &&& 31))) w = false := by rw [h]; exact b_0 w
    rw [b_and, h1 w hw w hw] at h2
    simpa using h2
  · intro h
    refine b_ext fun i hi => ?_
    rw [b_and, h1 w hw i hi, b_0]
    by_cases e : i = w
    · subst e; simp [h]
    · simp [e]
theorem tkR_add {x : Int32} {tk : Nat → Bool} (h : tkR x tk) {w : Nat} (hw : w < 32) : tkR (x ||| (nI 1 <<< (nI w &&& 31))) (tkA tk w) := by
  intro v hv
  have h1 : ∀ w, w < 32 → ∀ i, i < 32 → bt (nI 1 <<< (nI w &&& 31)) i = decide (i = w) := by decide +kernel
  have h2 := h v hv
  rw [bitT hv] at h2 ⊢
  rw [b_or, h1 w hw v hv]
  unfold tkA
  rw [Bool.or_eq_false_iff, Bool.or_eq_false_iff, h2]
-- the worlds: the class's object and its rows; the reference's
abbrev wx (cI : ClassId) (q : Nat → Nat) (sh sp ld nm tx ds ct : Nat → Int32) (co : Int64) (kg : Int32) (ks : Nat → Int32) : va_W := [(q 0, .inr (0, [.ref (q 1), .ref (q 2), .ref (q 3), .ref (q 4), .ref (q 5), .ref (q 6), .ref (q 7), .long co, .int kg, .ref (q 8)])), (q 1, .inl (cI, 8, .inl sh)), (q 2, .inl (cI, 64, .inl sp)), (q 3, .inl (cI, 32, .inl ld)), (q 4, .inl (cI, 8, .inl nm)), (q 5, .inl (cI, 32, .inl tx)), (q 6, .inl (cI, 32, .inl ds)), (q 7, .inl (cI, 160, .inl ct)), (q 8, .inl (cI, 8, .inl ks))]
abbrev wm (cI cZ : ClassId) (q : Nat → Nat) (th : Int32) (sh sp ld nm nk tx mn ds ct : Nat → Int32) (co : Int64) (st at0 ha : Int32) (tk : Nat → Int32) : va_W := [(q 0, .inr (1, [.int th, .ref (q 1), .ref (q 2), .ref (q 3), .ref (q 4), .ref (q 5), .ref (q 6), .ref (q 7), .ref (q 8), .ref (q 9), .long co, .int st, .int at0, .int ha, .ref (q 10)])), (q 1, .inl (cI, 8, .inl sh)), (q 2, .inl (cI, 64, .inl sp)), (q 3, .inl (cI, 32, .inl ld)), (q 4, .inl (cI, 8, .inl nm)), (q 5, .inl (cI, 8, .inl nk)), (q 6, .inl (cI, 32, .inl tx)), (q 7, .inl (cI, 32, .inl mn)), (q 8, .inl (cI, 32, .inl ds)), (q 9, .inl (cI, 160, .inl ct)), (q 10, .inl (cZ, 32, .inl tk))]
end
section
abbrev wdS (sh : Nat → Int32) : Nat → Int32 := fun g => wdF (hcC (sh g))
abbrev dS (sh : Nat → Int32) (x : Int32) : Nat → Int32 := fun g => df x (sh g)
abbrev rdS (sh ct ds : Nat → Int32) (w : Nat) : Nat → Nat := fun j => rdG (dS sh (ct (w * 5 + j))) (ds w)
abbrev oldC (sh ct : Nat → Int32) (w t : Nat) : Nat → Bool := fun j => decide (ct (w * 5 + j) ≠ sh (dg t j))
def rdas (sh ct ds : Nat → Int32) (w k gk gt : Nat) : Bool := decide (k = gk ∧ rtN (rdS sh ct ds w) k = gt)
abbrev toldC (sh ct ds : Nat → Int32) (K : Nat → Nat) (gk gt : Nat) : Nat → Bool := fun w => rdas sh ct ds w (K w) gk gt
abbrev arrC (NK NT : Nat → Nat) (gk gt : Nat) : Nat → Bool := fun p => decide (NK p = gk ∧ NT p = gt)
theorem pwC_z {wd sp : Nat → Int32} {t j : Nat} (h : j = 0) : pwC wd sp t (j + 1) = pwC wd sp t j + wd (dg t j) := by
  show (if 0 < j then _ else _) = _
  rw [if_neg (by omega)]
theorem pwC_p {wd sp : Nat → Int32} {t j : Nat} (h : 0 < j) : pwC wd sp t (j + 1) = (pwC wd sp t j + wd (dg t j)) + sp (dg t j * 8 + dg t (j - 1)) := by
  show (if 0 < j then _ else _) = _
  rw [if_pos h]
theorem le_nlt {a b : Int32} (h : a ≤ b) : ¬ b < a := by
  rw [fa_le] at h
  rw [fa_lt]
  omega
theorem fb_f {b : Nat → Bool} {n : Nat} (h : b n = false) : fb b (n + 1) = fb b n := by rw [fb_s, if_neg (fun q => by rw [h] at q; exact absurd q.2 (by decide))]
theorem fb_t {b : Nat → Bool} {n : Nat} (h4 : fb b n = 4) (h : b n = true) : fb b (n + 1) = n := by rw [fb_s, if_pos ⟨h4, h⟩]
theorem fb_n {b : Nat → Bool} {n : Nat} (h4 : fb b n ≠ 4) : fb b (n + 1) = fb b n := by rw [fb_s, if_neg (fun q => h4 q.1)]
theorem nx_t {a b : Nat → Bool} {i : Nat} (h4 : fb a i = 4) (h : a i = true) (hi : i < 4) : nxE a b = i := by
  have h1 := fb_stay (fb_t h4 h) (by omega) 4 (by omega)
  rw [nxE, h1, if_neg (by omega)]
theorem nx_n {a b : Nat → Bool} (h4 : fb a 4 = 4) : nxE a b = fb b 4 := by rw [nxE, if_pos h4]
theorem sa_a {told : Nat → Bool} {Ld : Nat → Nat} {arr : Nat → Bool} {f n p : Nat} {tk : Nat → Bool} (h : arr p = true) : sa told Ld arr (f + 1) n p tk = nI n := by
  show (if arr p then _ else _) = _
  rw [if_pos h]
theorem sa_l {told : Nat → Bool} {Ld : Nat → Nat} {arr : Nat → Bool} {f n p : Nat} {tk : Nat → Bool} (h : arr p = false) (h4 : nx told Ld tk p = 4) : sa told Ld arr (f + 1) n p tk = -1 := by
  show (if arr p then _ else if _ then _ else _) = _
  rw [if_neg (by rw [h]; decide), if_pos h4]
theorem sa_s {told : Nat → Bool} {Ld : Nat → Nat} {arr : Nat → Bool} {f n p e : Nat} {tk : Nat → Bool} (h : arr p = false) (h4 : nx told Ld tk p = e) (he : e < 4) : sa told Ld arr (f + 1) n p tk = sa told Ld arr f (n + 1) (Ld (4 * p + e)) (tkA tk (4 * p + e)) := by
  show (if arr p then _ else if _ then _ else _) = _
  rw [if_neg (by rw [h]; decide), if_neg (by omega), h4]
theorem pl_a {told : Nat → Bool} {Ld : Nat → Nat} {arr : Nat → Bool} {f p : Nat} {tk : Nat → Bool} (h : arr p = true) : pl told Ld arr (f + 1) p tk = p := by
  show (if arr p then _ else _) = _
  rw [if_pos h]
theorem pl_l {told : Nat → Bool} {Ld : Nat → Nat} {arr : Nat → Bool} {f p : Nat} {tk : Nat → Bool} (h4 : nx told Ld tk p = 4) : pl told Ld arr (f + 1) p tk = p := by
  show (if arr p then p else if nx told Ld tk p = 4 then p else _) = p
  rw [if_pos h4]
  split <;> rfl
theorem pl_s {told : Nat → Bool} {Ld : Nat → Nat} {arr : Nat → Bool} {f p e : Nat} {tk : Nat → Bool} (h : arr p = false) (h4 : nx told Ld tk p = e) (he : e < 4) : pl told Ld arr (f + 1) p tk = pl told Ld arr f (Ld (4 * p + e)) (tkA tk (4 * p + e)) := by
  show (if arr p then _ else if _ then _ else _) = _
  rw [if_neg (by rw [h]; decide), if_neg (by omega), h4]
set_option maxHeartbeats 4000000 in
set_option maxRecDepth 100000 in
theorem c_X0_packedWidth (l : Launch) (D : va_G) (cI : ClassId) (q : Nat → Nat) (sh sp ld nm tx ds ct : Nat → Int32) (co : Int64) (kg : Int32) (ks : Nat → Int32) (t k : Nat) (ht : t < 32768) (hk : k ≤ 5) : k_M l yX0_packedWidth wsX0_packedWidth ({ frames := 4, cells := 0, slots := 0, locals := 95 } : Room) [.ref (q 0), .int (nI (32768 * k + t))] (k_B D (wx cI q sh sp ld nm tx ds ct co kg ks) [(cI, .int)]) (some (.int (pwC (wdS sh) sp t k))) := by
  refine k_head (cc := cX0_packedWidth) (maxL := 5) (ret := some .int) [(0, .ref (q 0)), (1, .int (nI (32768 * k + t)))] (by decide) rfl (Nat.le_of_ble_eq_true rfl) rfl ?_
  intro p e s m below meth c ls hx hb hr hml hown hts hlocks hname hB hl
  have hown : s.vm.findClass RX0 = some m.cls := hown
  obtain ⟨hP, hK⟩ := hB
  have hin : ∀ w ∈ wsX00, w ∈ wsX0_packedWidth := fun w h => List.mem_cons_of_mem _ (List.mem_append_right _ h)
  refine lv_iconst (v := nI 0) hx hb dX0_packedWidth_0 (by decide) ?_
  refine lv_istore_n (lv' := [(2, .int (nI 0)), (0, .ref (q 0)), (1, .int (nI (32768 * k + t)))]) hx hb dX0_packedWidth_1 rfl hl (by decide) rfl (fun ls hl => ?_)
  refine lv_iconst (v := nI 0) hx hb dX0_packedWidth_2 (by decide) ?_
  refine lv_istore_n (lv' := [(3, .int (nI 0)), (2, .int (nI 0)), (0, .ref (q 0)), (1, .int (nI (32768 * k + t)))]) hx hb dX0_packedWidth_3 rfl hl (by decide) rfl (fun ls hl => ?_)
  refine W.loop (fun i ls => ∃ (v2 : Int32), (v2 = pwC (wdS sh) sp t i) ∧ lv_has ls 5 [(0, .ref (q 0)), (1, .int (nI (32768 * k + t))), (2, .int v2), (3, .int (nI i))]) (k) (0) (by omega) ⟨nI 0, rfl, lv_sub hl [2, 3, 1, 0] rfl⟩ ?_
  intro i ls hi_4 hI_4 ih_4
  obtain ⟨v2, hf0_4, hl⟩ := hI_4
  refine lv_iload_n hx hb dX0_packedWidth_4 rfl (lv_at hl 3 rfl) ?_
  refine lv_iload_n hx hb dX0_packedWidth_5 rfl (lv_at hl 1 rfl) ?_
  refine k_callSi (As := [.int (nI (32768 * k + t))]) (rest := [.int (nI i)]) ⟨hx, hb, hml, hown, hts⟩ (c_X0_manyOf l t k (by omega) (by omega)) (va_cwS 1 hts gX0_packedWidth_X0_manyOf rfl rfl rfl (by decide +kernel) ⟨Nat.le_of_ble_eq_true rfl, Nat.le_of_ble_eq_true rfl⟩) k_bl_tt (fun _ _ _ => trivial) rfl hl.1 rfl (Nat.le_of_ble_eq_true rfl) dX0_packedWidth_6 ⟨Nat.zero_le _, Nat.zero_le _⟩ ?_
  refine n_icmp_ge (tgt := 62) hx hb dX0_packedWidth_9 (by decide) (by omega) (by omega) (fun c_9 => ?_) (fun c_9 => ?_)
  · refine lv_iload_n hx hb dX0_packedWidth_62 rfl (lv_at hl 2 rfl) ?_
    exact k_iret hx hb hr hlocks dX0_packedWidth_63 (by rw [hf0_4, show i = k from by omega])
  · refine lv_iload_n hx hb dX0_packedWidth_12 rfl (lv_at hl 1 rfl) ?_
    refine lv_iload_n hx hb dX0_packedWidth_13 rfl (lv_at hl 3 rfl) ?_
    refine k_callSi (As := [.int (nI (32768 * k + t)), .int (nI i)]) (rest := []) ⟨hx, hb, hml, hown, hts⟩ (c_X0_glyphAt l t k i (by omega) (by omega) (by omega)) (va_cwS 2 hts gX0_packedWidth_X0_glyphAt rfl rfl rfl (by decide +kernel) ⟨Nat.le_of_ble_eq_true rfl, Nat.le_of_ble_eq_true rfl⟩) k_bl_tt (fun _ _ _ => trivial) rfl hl.1 rfl (Nat.le_of_ble_eq_true rfl) dX0_packedWidth_14 ⟨Nat.zero_le _, Nat.zero_le _⟩ ?_
    refine lv_istore (lv' := [(4, .int (nI (dg t i))), (0, .ref (q 0)), (1, .int (nI (32768 * k + t))), (2, .int v2), (3, .int (nI i))]) hx hb dX0_packedWidth_17 hl (by decide) rfl (fun ls hl => ?_)
    refine lv_iload_n hx hb dX0_packedWidth_19 rfl (lv_at hl 3 rfl) ?_
    refine lv_aload_n hx hb dX0_packedWidth_20 rfl (lv_at hl 1 rfl) ?_
    refine va_get (D := D) (ci := 0) (v := .ref (q 1)) (C := RX0) (T := TX0) (N := 10) hx hb hts hin hown hK hP 0 rfl rfl 0 (by decide) (hts (.fieldLink RX0 9 "SignRail" "shapes" "[I") (by decide +kernel)) (fun _ h9 => h9) rfl dX0_packedWidth_21 ?_
    refine lv_iload hx hb dX0_packedWidth_24 (lv_at hl 0 rfl) ?_
    refine n_iald hx hb hK hP 1 0 rfl rfl (k := (dg t i)) (dg_lt _ _) (Nat.le_of_ble_eq_true rfl) dX0_packedWidth_26 ?_
    refine k_callSi (As := [.int (sh (dg t i))]) (rest := [.int v2]) ⟨hx, hb, hml, hown, hts⟩ (c_X0_shapeWidth l (sh (dg t i))) (va_cwS 1 hts gX0_packedWidth_X0_shapeWidth rfl rfl rfl (by decide +kernel) ⟨Nat.le_of_ble_eq_true rfl, Nat.le_of_ble_eq_true rfl⟩) k_bl_tt (fun _ _ _ => trivial) rfl hl.1 rfl (Nat.le_of_ble_eq_true rfl) dX0_packedWidth_27 ⟨Nat.zero_le _, Nat.zero_le _⟩ ?_
    refine lv_iadd hx hb dX0_packedWidth_30 ?_
    refine lv_istore_n (lv' := [(2, .int (v2 + (wdF (hcC (sh (dg t i)))))), (4, .int (nI (dg t i))), (0, .ref (q 0)), (1, .int (nI (32768 * k + t))), (3, .int (nI i))]) hx hb dX0_packedWidth_31 rfl hl (by decide) rfl (fun ls hl => ?_)
    refine lv_iload_n hx hb dX0_packedWidth_32 rfl (lv_at hl 4 rfl) ?_
    refine n_if_le (tgt := 56) hx hb dX0_packedWidth_33 (by decide) (by omega) (fun c_33 => ?_) (fun c_33 => ?_)
    · refine lv_iinc (v := nI (i + 1)) (lv' := [(3, .int (nI (i + 1))), (2, .int (v2 + (wdF (hcC (sh (dg t i)))))), (4, .int (nI (dg t i))), (0, .ref (q 0)), (1, .int (nI (32768 * k + t)))]) hx hb dX0_packedWidth_56 hl (k := 4) rfl (nI_inc _) (by decide) rfl (fun ls hl => ?_)
      refine lv_goto (tgt := 4) hx hb dX0_packedWidth_59 (by decide) ?_
      exact ih_4 _ (by omega) ⟨v2 + (wdF (hcC (sh (dg t i)))), by rw [pwC_z c_33, ← hf0_4], lv_sub hl [3, 4, 1, 0] rfl⟩
    · refine lv_iload_n hx hb dX0_packedWidth_36 rfl (lv_at hl 0 rfl) ?_
      refine lv_aload_n hx hb dX0_packedWidth_37 rfl (lv_at hl 2 rfl) ?_
      refine va_get (D := D) (ci := 0) (v := .ref (q 2)) (C := RX0) (T := TX0) (N := 10) hx hb hts hin hown hK hP 0 rfl rfl 1 (by decide) (hts (.fieldLink RX0 13 "SignRail" "spaces" "[I") (by decide +kernel)) (fun _ h9 => h9) rfl dX0_packedWidth_38 ?_
      refine lv_iload hx hb dX0_packedWidth_41 (lv_at hl 1 rfl) ?_
      refine lv_iload_n hx hb dX0_packedWidth_43 rfl (lv_at hl 3 rfl) ?_
      refine lv_iload_n hx hb dX0_packedWidth_44 rfl (lv_at hl 4 rfl) ?_
      refine lv_iconst (v := nI 1) hx hb dX0_packedWidth_45 (by decide) ?_
      refine lv_isub hx hb dX0_packedWidth_46 ?_
      refine lv_as (y := nI (i - 1)) (pk_sub (by omega)) ?_
      refine k_callSi (As := [.int (nI (32768 * k + t)), .int (nI (i - 1))]) (rest := [.int (nI (dg t i)), .ref (q 2), .int (v2 + (wdF (hcC (sh (dg t i)))))]) ⟨hx, hb, hml, hown, hts⟩ (c_X0_glyphAt l t k (i - 1) (by omega) (by omega) (by omega)) (va_cwS 2 hts gX0_packedWidth_X0_glyphAt rfl rfl rfl (by decide +kernel) ⟨Nat.le_of_ble_eq_true rfl, Nat.le_of_ble_eq_true rfl⟩) k_bl_tt (fun _ _ _ => trivial) rfl hl.1 rfl (Nat.le_of_ble_eq_true rfl) dX0_packedWidth_47 ⟨Nat.zero_le _, Nat.zero_le _⟩ ?_
      refine k_callSi (As := [.int (nI (dg t i)), .int (nI (dg t (i - 1)))]) (rest := [.ref (q 2), .int (v2 + (wdF (hcC (sh (dg t i)))))]) ⟨hx, hb, hml, hown, hts⟩ (c_X0_pairOf l (dg t i) (dg t (i - 1))) (va_cwS 2 hts gX0_packedWidth_X0_pairOf rfl rfl rfl (by decide +kernel) ⟨Nat.le_of_ble_eq_true rfl, Nat.le_of_ble_eq_true rfl⟩) k_bl_tt (fun _ _ _ => trivial) rfl hl.1 rfl (Nat.le_of_ble_eq_true rfl) dX0_packedWidth_50 ⟨Nat.zero_le _, Nat.zero_le _⟩ ?_
      refine n_iald hx hb hK hP 2 0 rfl rfl (k := ((dg t i) * 8 + (dg t (i - 1)))) (by have h1 := dg_lt t i; have h2 := dg_lt t (i - 1); omega) (Nat.le_of_ble_eq_true rfl) dX0_packedWidth_53 ?_
      refine lv_iadd hx hb dX0_packedWidth_54 ?_
      refine lv_istore_n (lv' := [(2, .int ((v2 + (wdF (hcC (sh (dg t i))))) + (sp ((dg t i) * 8 + (dg t (i - 1)))))), (4, .int (nI (dg t i))), (0, .ref (q 0)), (1, .int (nI (32768 * k + t))), (3, .int (nI i))]) hx hb dX0_packedWidth_55 rfl hl (by decide) rfl (fun ls hl => ?_)
      refine lv_iinc (v := nI (i + 1)) (lv' := [(3, .int (nI (i + 1))), (2, .int ((v2 + (wdF (hcC (sh (dg t i))))) + (sp ((dg t i) * 8 + (dg t (i - 1)))))), (4, .int (nI (dg t i))), (0, .ref (q 0)), (1, .int (nI (32768 * k + t)))]) hx hb dX0_packedWidth_56 hl (k := 4) rfl (nI_inc _) (by decide) rfl (fun ls hl => ?_)
      refine lv_goto (tgt := 4) hx hb dX0_packedWidth_59 (by decide) ?_
      exact ih_4 _ (by omega) ⟨(v2 + (wdF (hcC (sh (dg t i))))) + (sp ((dg t i) * 8 + (dg t (i - 1)))), by rw [pwC_p c_33, ← hf0_4], lv_sub hl [3, 4, 1, 0] rfl⟩
set_option maxHeartbeats 4000000 in
set_option maxRecDepth 100000 in
theorem c_X0_plateFor (l : Launch) (D : va_G) (cI : ClassId) (q : Nat → Nat) (sh sp ld nm tx ds ct : Nat → Int32) (co : Int64) (kg : Int32) (ks : Nat → Int32) (t k : Nat) (ht : t < 32768) (hk : k ≤ 5) : k_M l yX0_plateFor wsX0_plateFor ({ frames := 5, cells := 0, slots := 0, locals := 119 } : Room) [.ref (q 0), .int (nI (32768 * k + t))] (k_B D (wx cI q sh sp ld nm tx ds ct co kg ks) [(cI, .int)]) (some (.int (plF (pwC (wdS sh) sp t k)))) := by
  refine k_head (cc := cX0_plateFor) (maxL := 3) (ret := some .int) [(0, .ref (q 0)), (1, .int (nI (32768 * k + t)))] (by decide) rfl (Nat.le_of_ble_eq_true rfl) rfl ?_
  intro p e s m below meth c ls hx hb hr hml hown hts hlocks hname hB hl
  have hown : s.vm.findClass RX0 = some m.cls := hown
  obtain ⟨hP, hK⟩ := hB
  have hin : ∀ w ∈ wsX00, w ∈ wsX0_plateFor := fun w h => List.mem_cons_of_mem _ (List.mem_append_right _ h)
  refine lv_aload_n hx hb dX0_plateFor_0 rfl (lv_at hl 0 rfl) ?_
  refine lv_iload_n hx hb dX0_plateFor_1 rfl (lv_at hl 1 rfl) ?_
  refine k_callVi (As := [.int (nI (32768 * k + t))]) (rest := []) ⟨hx, hb, hml, hown, hts⟩ (c_X0_packedWidth l D cI q sh sp ld nm tx ds ct co kg ks t k (by omega) (by omega)) (cwV 1 hts gX0_plateFor_X0_packedWidth rfl rfl rfl (by decide +kernel) ⟨Nat.le_of_ble_eq_true rfl, Nat.le_of_ble_eq_true rfl⟩) k_B_bl (k_B_of hP hK) (va_recv hK hP (ci := 0) (q0 := 0) rfl rfl) rfl hl.1 rfl (Nat.le_of_ble_eq_true rfl) dX0_plateFor_2 ⟨Nat.zero_le _, Nat.zero_le _⟩ ?_
  refine lv_istore_n (lv' := [(2, .int (pwC (wdS sh) sp t k)), (0, .ref (q 0)), (1, .int (nI (32768 * k + t)))]) hx hb dX0_plateFor_5 rfl hl (by decide) rfl (fun ls hl => ?_)
  refine lv_iload_n hx hb dX0_plateFor_6 rfl (lv_at hl 0 rfl) ?_
  refine lv_bipush (v := nI 10) hx hb dX0_plateFor_7 (by decide) ?_
  refine lv_icmp_gt (tgt := 14) hx hb dX0_plateFor_9 (by decide) (fun c_9 => ?_) (fun c_9 => ?_)
  · refine lv_iload_n hx hb dX0_plateFor_14 rfl (lv_at hl 0 rfl) ?_
    refine lv_bipush (v := nI 20) hx hb dX0_plateFor_15 (by decide) ?_
    refine lv_icmp_gt (tgt := 23) hx hb dX0_plateFor_17 (by decide) (fun c_17 => ?_) (fun c_17 => ?_)
    · refine lv_iload_n hx hb dX0_plateFor_23 rfl (lv_at hl 0 rfl) ?_
      refine lv_bipush (v := nI 30) hx hb dX0_plateFor_24 (by decide) ?_
      refine lv_icmp_gt (tgt := 34) hx hb dX0_plateFor_26 (by decide) (fun c_26 => ?_) (fun c_26 => ?_)
      · refine lv_iconst (v := (-1)) hx hb dX0_plateFor_34 (by decide) ?_
        exact k_iret hx hb hr hlocks dX0_plateFor_35 (by rw [plF, if_pos c_9, if_pos c_17, if_pos c_26])
      · refine lv_bipush (v := nI 10) hx hb dX0_plateFor_29 (by decide) ?_
        refine lv_goto (tgt := 35) hx hb dX0_plateFor_31 (by decide) ?_
        exact k_iret hx hb hr hlocks dX0_plateFor_35 (by rw [plF, if_pos c_9, if_pos c_17, if_neg c_26])
    · refine lv_bipush (v := nI 7) hx hb dX0_plateFor_20 (by decide) ?_
      exact k_iret hx hb hr hlocks dX0_plateFor_22 (by rw [plF, if_pos c_9, if_neg c_17])
  · refine lv_iconst (v := nI 4) hx hb dX0_plateFor_12 (by decide) ?_
    exact k_iret hx hb hr hlocks dX0_plateFor_13 (by rw [plF, if_neg c_9])
set_option maxHeartbeats 4000000 in
set_option maxRecDepth 100000 in
theorem c_X0_isOutdated (l : Launch) (D : va_G) (cI : ClassId) (q : Nat → Nat) (sh sp ld nm tx ds ct : Nat → Int32) (co : Int64) (kg : Int32) (ks : Nat → Int32) (w t k : Nat) (hw : w < 32) (ht : t < 32768) (hk : k ≤ 5) (htx : tx w = nI (32768 * k + t)) : k_M l yX0_isOutdated wsX0_isOutdated ({ frames := 1, cells := 0, slots := 0, locals := 21 } : Room) [.ref (q 0), .int (nI w)] (k_B D (wx cI q sh sp ld nm tx ds ct co kg ks) [(cI, .int)]) (some (.int (bI (anyB (oldC sh ct w t) k)))) := by
  refine k_head (cc := cX0_isOutdated) (maxL := 4) (ret := some .boolean) [(0, .ref (q 0)), (1, .int (nI w))] (by decide) rfl (Nat.le_of_ble_eq_true rfl) rfl ?_
  intro p e s m below meth c ls hx hb hr hml hown hts hlocks hname hB hl
  have hown : s.vm.findClass RX0 = some m.cls := hown
  obtain ⟨hP, hK⟩ := hB
  have hin : ∀ w ∈ wsX00, w ∈ wsX0_isOutdated := fun w h => List.mem_cons_of_mem _ (List.mem_append_right _ h)
  refine lv_aload_n hx hb dX0_isOutdated_0 rfl (lv_at hl 0 rfl) ?_
  refine va_get (D := D) (ci := 0) (v := .ref (q 5)) (C := RX0) (T := TX0) (N := 10) hx hb hts hin hown hK hP 0 rfl rfl 4 (by decide) (hts (.fieldLink RX0 22 "SignRail" "signTexts" "[I") (by decide +kernel)) (fun _ h9 => h9) rfl dX0_isOutdated_1 ?_
  refine lv_iload_n hx hb dX0_isOutdated_4 rfl (lv_at hl 1 rfl) ?_
  refine n_iald hx hb hK hP 5 0 rfl rfl (k := w) (by omega) (Nat.le_of_ble_eq_true rfl) dX0_isOutdated_5 ?_
  refine lv_as (y := nI (32768 * k + t)) (htx) ?_
  refine lv_istore_n (lv' := [(2, .int (nI (32768 * k + t))), (0, .ref (q 0)), (1, .int (nI w))]) hx hb dX0_isOutdated_6 rfl hl (by decide) rfl (fun ls hl => ?_)
  refine lv_iconst (v := nI 0) hx hb dX0_isOutdated_7 (by decide) ?_
  refine lv_istore_n (lv' := [(3, .int (nI 0)), (2, .int (nI (32768 * k + t))), (0, .ref (q 0)), (1, .int (nI w))]) hx hb dX0_isOutdated_8 rfl hl (by decide) rfl (fun ls hl => ?_)
  refine W.loop (fun i ls => (anyB (oldC sh ct w t) i = false) ∧ lv_has ls 4 [(0, .ref (q 0)), (1, .int (nI w)), (2, .int (nI (32768 * k + t))), (3, .int (nI i))]) (k) (0) (by omega) ⟨rfl, lv_sub hl [2, 3, 1, 0] rfl⟩ ?_
  intro i ls hi_9 hI_9 ih_9
  obtain ⟨hf0_9, hl⟩ := hI_9
  refine lv_iload_n hx hb dX0_isOutdated_9 rfl (lv_at hl 3 rfl) ?_
  refine lv_iload_n hx hb dX0_isOutdated_10 rfl (lv_at hl 2 rfl) ?_
  refine k_callSi (As := [.int (nI (32768 * k + t))]) (rest := [.int (nI i)]) ⟨hx, hb, hml, hown, hts⟩ (c_X0_manyOf l t k (by omega) (by omega)) (va_cwS 1 hts gX0_isOutdated_X0_manyOf rfl rfl rfl (by decide +kernel) ⟨Nat.le_of_ble_eq_true rfl, Nat.le_of_ble_eq_true rfl⟩) k_bl_tt (fun _ _ _ => trivial) rfl hl.1 rfl (Nat.le_of_ble_eq_true rfl) dX0_isOutdated_11 ⟨Nat.zero_le _, Nat.zero_le _⟩ ?_
  refine n_icmp_ge (tgt := 48) hx hb dX0_isOutdated_14 (by decide) (by omega) (by omega) (fun c_14 => ?_) (fun c_14 => ?_)
  · refine lv_iconst (v := nI 0) hx hb dX0_isOutdated_48 (by decide) ?_
    exact k_zret hx hb hr hlocks dX0_isOutdated_49 (by rw [← show i = k from by omega, hf0_9]; rfl)
  · refine lv_aload_n hx hb dX0_isOutdated_17 rfl (lv_at hl 0 rfl) ?_
    refine va_get (D := D) (ci := 0) (v := .ref (q 7)) (C := RX0) (T := TX0) (N := 10) hx hb hts hin hown hK hP 0 rfl rfl 6 (by decide) (hts (.fieldLink RX0 28 "SignRail" "signShapes" "[I") (by decide +kernel)) (fun _ h9 => h9) rfl dX0_isOutdated_18 ?_
    refine lv_iload_n hx hb dX0_isOutdated_21 rfl (lv_at hl 1 rfl) ?_
    refine lv_iconst (v := nI 5) hx hb dX0_isOutdated_22 (by decide) ?_
    refine lv_imul hx hb dX0_isOutdated_23 ?_
    refine lv_as (y := nI (w * 5)) (pk_mul _ _) ?_
    refine lv_iload_n hx hb dX0_isOutdated_24 rfl (lv_at hl 3 rfl) ?_
    refine lv_iadd hx hb dX0_isOutdated_25 ?_
    refine lv_as (y := nI ((w * 5) + i)) (nI_add _ _) ?_
    refine n_iald hx hb hK hP 7 0 rfl rfl (k := ((w * 5) + i)) (by omega) (Nat.le_of_ble_eq_true rfl) dX0_isOutdated_26 ?_
    refine lv_aload_n hx hb dX0_isOutdated_27 rfl (lv_at hl 0 rfl) ?_
    refine va_get (D := D) (ci := 0) (v := .ref (q 1)) (C := RX0) (T := TX0) (N := 10) hx hb hts hin hown hK hP 0 rfl rfl 0 (by decide) (hts (.fieldLink RX0 9 "SignRail" "shapes" "[I") (by decide +kernel)) (fun _ h9 => h9) rfl dX0_isOutdated_28 ?_
    refine lv_iload_n hx hb dX0_isOutdated_31 rfl (lv_at hl 2 rfl) ?_
    refine lv_iload_n hx hb dX0_isOutdated_32 rfl (lv_at hl 3 rfl) ?_
    refine k_callSi (As := [.int (nI (32768 * k + t)), .int (nI i)]) (rest := [.ref (q 1), .int (ct ((w * 5) + i))]) ⟨hx, hb, hml, hown, hts⟩ (c_X0_glyphAt l t k i (by omega) (by omega) (by omega)) (va_cwS 2 hts gX0_isOutdated_X0_glyphAt rfl rfl rfl (by decide +kernel) ⟨Nat.le_of_ble_eq_true rfl, Nat.le_of_ble_eq_true rfl⟩) k_bl_tt (fun _ _ _ => trivial) rfl hl.1 rfl (Nat.le_of_ble_eq_true rfl) dX0_isOutdated_33 ⟨Nat.zero_le _, Nat.zero_le _⟩ ?_
    refine n_iald hx hb hK hP 1 0 rfl rfl (k := (dg t i)) (dg_lt _ _) (Nat.le_of_ble_eq_true rfl) dX0_isOutdated_36 ?_
    refine lv_icmp_eq (tgt := 42) hx hb dX0_isOutdated_37 (by decide) (fun c_37 => ?_) (fun c_37 => ?_)
    · refine lv_iinc (v := nI (i + 1)) (lv' := [(3, .int (nI (i + 1))), (0, .ref (q 0)), (1, .int (nI w)), (2, .int (nI (32768 * k + t)))]) hx hb dX0_isOutdated_42 hl (k := 3) rfl (nI_inc _) (by decide) rfl (fun ls hl => ?_)
      refine lv_goto (tgt := 9) hx hb dX0_isOutdated_45 (by decide) ?_
      exact ih_9 _ (by omega) ⟨by rw [anyB, hf0_9]; simp [c_37], lv_sub hl [1, 2, 3, 0] rfl⟩
    · refine lv_iconst (v := nI 1) hx hb dX0_isOutdated_40 (by decide) ?_
      exact k_zret hx hb hr hlocks dX0_isOutdated_41 (by rw [anyB_t (i := i) (decide_eq_true c_37) (by omega)]; rfl)
set_option maxHeartbeats 4000000 in
set_option maxRecDepth 100000 in
theorem c_X0_nearestGlyph (l : Launch) (D : va_G) (cI : ClassId) (q : Nat → Nat) (sh sp ld nm tx ds ct : Nat → Int32) (co : Int64) (kg : Int32) (ks : Nat → Int32) (x : Int32) (b : Nat) (hb8 : b ≤ 8) (hsx : S25 x) (hsh : ∀ g, g < 8 → S25 (sh g)) : k_M l yX0_nearestGlyph wsX0_nearestGlyph ({ frames := 2, cells := 0, slots := 0, locals := 41 } : Room) [.ref (q 0), .int x, .int (ix b)] (k_B D (wx cI q sh sp ld nm tx ds ct co kg ks) [(cI, .int)]) (some (.int (nI (nrN (dS sh x) b 8)))) := by
  refine k_head (cc := cX0_nearestGlyph) (maxL := 5) (ret := some .int) [(0, .ref (q 0)), (1, .int x), (2, .int (ix b))] (by decide) rfl (Nat.le_of_ble_eq_true rfl) rfl ?_
  intro p e s m below meth c ls hx hb hr hml hown hts hlocks hname hB hl
  have hown : s.vm.findClass RX0 = some m.cls := hown
  obtain ⟨hP, hK⟩ := hB
  have hin : ∀ w ∈ wsX00, w ∈ wsX0_nearestGlyph := fun w h => List.mem_cons_of_mem _ (List.mem_append_right _ h)
  refine W.joinI (pc2 := 9) (st2 := []) (J := fun v => v = nI (nrS b)) (fun j9 => ?_) (fun v9 hv9 => ?_)
  · refine lv_iload_n hx hb dX0_nearestGlyph_0 rfl (lv_at hl 2 rfl) ?_
    refine lv_if_ne (tgt := 8) hx hb dX0_nearestGlyph_1 (by decide) (fun c_1 => ?_) (fun c_1 => ?_)
    · refine lv_iconst (v := nI 0) hx hb dX0_nearestGlyph_8 (by decide) ?_
      exact j9 _ (by rw [nrS, if_neg (fun q => c_1 ((ix_0 hb8).mpr q))])
    · refine lv_iconst (v := nI 1) hx hb dX0_nearestGlyph_4 (by decide) ?_
      refine lv_goto (tgt := 9) hx hb dX0_nearestGlyph_5 (by decide) ?_
      exact j9 _ (by rw [nrS, if_pos ((ix_0 hb8).mp c_1)])
  · subst hv9
    refine lv_istore_n (lv' := [(3, .int (nI (nrS b))), (0, .ref (q 0)), (1, .int x), (2, .int (ix b))]) hx hb dX0_nearestGlyph_9 rfl hl (by decide) rfl (fun ls hl => ?_)
    refine lv_iload_n hx hb dX0_nearestGlyph_10 rfl (lv_at hl 0 rfl) ?_
    refine lv_iconst (v := nI 1) hx hb dX0_nearestGlyph_11 (by decide) ?_
    refine lv_iadd hx hb dX0_nearestGlyph_12 ?_
    refine lv_as (y := nI ((nrS b) + 1)) (nI_add _ _) ?_
    refine lv_istore (lv' := [(4, .int (nI ((nrS b) + 1))), (3, .int (nI (nrS b))), (0, .ref (q 0)), (1, .int x), (2, .int (ix b))]) hx hb dX0_nearestGlyph_13 hl (by decide) rfl (fun ls hl => ?_)
    refine W.loop (fun i ls => ∃ (n : Nat), (n = nrN (dS sh x) b i) ∧ (n < 8) ∧ lv_has ls 5 [(0, .ref (q 0)), (1, .int x), (2, .int (ix b)), (3, .int (nI n)), (4, .int (nI i))]) (8) (nrS b + 1) (by unfold nrS; split <;> decide) ⟨nrS b, (nr_start _ _).symm, by unfold nrS; split <;> decide, lv_sub hl [2, 3, 4, 1, 0] rfl⟩ ?_
    intro i ls hi_15 hI_15 ih_15
    obtain ⟨n, hf0_15, hf1_15, hl⟩ := hI_15
    refine lv_iload hx hb dX0_nearestGlyph_15 (lv_at hl 4 rfl) ?_
    refine lv_bipush (v := nI 8) hx hb dX0_nearestGlyph_17 (by decide) ?_
    refine n_icmp_ge (tgt := 61) hx hb dX0_nearestGlyph_19 (by decide) (by omega) (by omega) (fun c_19 => ?_) (fun c_19 => ?_)
    · refine lv_iload_n hx hb dX0_nearestGlyph_61 rfl (lv_at hl 3 rfl) ?_
      exact k_iret hx hb hr hlocks dX0_nearestGlyph_62 (by rw [hf0_15, show i = 8 from by omega])
    · refine lv_iload hx hb dX0_nearestGlyph_22 (lv_at hl 4 rfl) ?_
      refine lv_iload_n hx hb dX0_nearestGlyph_24 rfl (lv_at hl 2 rfl) ?_
      refine lv_icmp_eq (tgt := 55) hx hb dX0_nearestGlyph_25 (by decide) (fun c_25 => ?_) (fun c_25 => ?_)
      · refine lv_iinc (v := nI (i + 1)) (lv' := [(4, .int (nI (i + 1))), (0, .ref (q 0)), (1, .int x), (2, .int (ix b)), (3, .int (nI n))]) hx hb dX0_nearestGlyph_55 hl (k := 4) rfl (nI_inc _) (by decide) rfl (fun ls hl => ?_)
        refine lv_goto (tgt := 15) hx hb dX0_nearestGlyph_58 (by decide) ?_
        exact ih_15 _ (by omega) ⟨n, by rw [nr_eq ((ix_eq hb8 c_19).mp c_25)]; exact hf0_15, hf1_15, lv_sub hl [1, 2, 3, 4, 0] rfl⟩
      · refine lv_iload_n hx hb dX0_nearestGlyph_28 rfl (lv_at hl 1 rfl) ?_
        refine lv_aload_n hx hb dX0_nearestGlyph_29 rfl (lv_at hl 0 rfl) ?_
        refine va_get (D := D) (ci := 0) (v := .ref (q 1)) (C := RX0) (T := TX0) (N := 10) hx hb hts hin hown hK hP 0 rfl rfl 0 (by decide) (hts (.fieldLink RX0 9 "SignRail" "shapes" "[I") (by decide +kernel)) (fun _ h9 => h9) rfl dX0_nearestGlyph_30 ?_
        refine lv_iload hx hb dX0_nearestGlyph_33 (lv_at hl 4 rfl) ?_
        refine n_iald hx hb hK hP 1 0 rfl rfl (k := i) (by omega) (Nat.le_of_ble_eq_true rfl) dX0_nearestGlyph_35 ?_
        refine k_callSi (As := [.int x, .int (sh i)]) (rest := []) ⟨hx, hb, hml, hown, hts⟩ (c_X0_differing l x (sh i) hsx (hsh _ (by omega))) (va_cwS 2 hts gX0_nearestGlyph_X0_differing rfl rfl rfl (by decide +kernel) ⟨Nat.le_of_ble_eq_true rfl, Nat.le_of_ble_eq_true rfl⟩) k_bl_tt (fun _ _ _ => trivial) rfl hl.1 rfl (Nat.le_of_ble_eq_true rfl) dX0_nearestGlyph_36 ⟨Nat.zero_le _, Nat.zero_le _⟩ ?_
        refine lv_iload_n hx hb dX0_nearestGlyph_39 rfl (lv_at hl 1 rfl) ?_
        refine lv_aload_n hx hb dX0_nearestGlyph_40 rfl (lv_at hl 0 rfl) ?_
        refine va_get (D := D) (ci := 0) (v := .ref (q 1)) (C := RX0) (T := TX0) (N := 10) hx hb hts hin hown hK hP 0 rfl rfl 0 (by decide) (hts (.fieldLink RX0 9 "SignRail" "shapes" "[I") (by decide +kernel)) (fun _ h9 => h9) rfl dX0_nearestGlyph_41 ?_
        refine lv_iload_n hx hb dX0_nearestGlyph_44 rfl (lv_at hl 3 rfl) ?_
        refine n_iald hx hb hK hP 1 0 rfl rfl (k := n) (by omega) (Nat.le_of_ble_eq_true rfl) dX0_nearestGlyph_45 ?_
        refine k_callSi (As := [.int x, .int (sh n)]) (rest := [.int (df x (sh i))]) ⟨hx, hb, hml, hown, hts⟩ (c_X0_differing l x (sh n) hsx (hsh _ (by omega))) (va_cwS 2 hts gX0_nearestGlyph_X0_differing rfl rfl rfl (by decide +kernel) ⟨Nat.le_of_ble_eq_true rfl, Nat.le_of_ble_eq_true rfl⟩) k_bl_tt (fun _ _ _ => trivial) rfl hl.1 rfl (Nat.le_of_ble_eq_true rfl) dX0_nearestGlyph_46 ⟨Nat.zero_le _, Nat.zero_le _⟩ ?_
        refine lv_icmp_ge (tgt := 55) hx hb dX0_nearestGlyph_49 (by decide) (fun c_49 => ?_) (fun c_49 => ?_)
        · refine lv_iinc (v := nI (i + 1)) (lv' := [(4, .int (nI (i + 1))), (0, .ref (q 0)), (1, .int x), (2, .int (ix b)), (3, .int (nI n))]) hx hb dX0_nearestGlyph_55 hl (k := 4) rfl (nI_inc _) (by decide) rfl (fun ls hl => ?_)
          refine lv_goto (tgt := 15) hx hb dX0_nearestGlyph_58 (by decide) ?_
          exact ih_15 _ (by omega) ⟨n, nr_ge hf0_15 hf1_15 (le_nlt c_49), hf1_15, lv_sub hl [1, 2, 3, 4, 0] rfl⟩
        · refine lv_iload hx hb dX0_nearestGlyph_52 (lv_at hl 4 rfl) ?_
          refine lv_istore_n (lv' := [(3, .int (nI i)), (0, .ref (q 0)), (1, .int x), (2, .int (ix b)), (4, .int (nI i))]) hx hb dX0_nearestGlyph_54 rfl hl (by decide) rfl (fun ls hl => ?_)
          refine lv_iinc (v := nI (i + 1)) (lv' := [(4, .int (nI (i + 1))), (3, .int (nI i)), (0, .ref (q 0)), (1, .int x), (2, .int (ix b))]) hx hb dX0_nearestGlyph_55 hl (k := 4) rfl (nI_inc _) (by decide) rfl (fun ls hl => ?_)
          refine lv_goto (tgt := 15) hx hb dX0_nearestGlyph_58 (by decide) ?_
          exact ih_15 _ (by omega) ⟨i, nr_lt (fun q => c_25 ((ix_eq hb8 c_19).mpr q)) hf0_15 (fa_of_nle c_49), c_19, lv_sub hl [2, 3, 4, 1, 0] rfl⟩
set_option maxHeartbeats 4000000 in
set_option maxRecDepth 100000 in
theorem c_X0_readGlyph (l : Launch) (D : va_G) (cI : ClassId) (q : Nat → Nat) (sh sp ld nm tx ds ct : Nat → Int32) (co : Int64) (kg : Int32) (ks : Nat → Int32) (x d0 : Int32) (hsx : S25 x) (hsh : ∀ g, g < 8 → S25 (sh g)) : k_M l yX0_readGlyph wsX0_readGlyph ({ frames := 3, cells := 0, slots := 0, locals := 65 } : Room) [.ref (q 0), .int x, .int d0] (k_B D (wx cI q sh sp ld nm tx ds ct co kg ks) [(cI, .int)]) (some (.int (nI (rdG (dS sh x) d0)))) := by
  refine k_head (cc := cX0_readGlyph) (maxL := 6) (ret := some .int) [(0, .ref (q 0)), (1, .int x), (2, .int d0)] (by decide) rfl (Nat.le_of_ble_eq_true rfl) rfl ?_
  intro p e s m below meth c ls hx hb hr hml hown hts hlocks hname hB hl
  have hown : s.vm.findClass RX0 = some m.cls := hown
  obtain ⟨hP, hK⟩ := hB
  have hin : ∀ w ∈ wsX00, w ∈ wsX0_readGlyph := fun w h => List.mem_cons_of_mem _ (List.mem_append_right _ h)
  refine lv_aload_n hx hb dX0_readGlyph_0 rfl (lv_at hl 0 rfl) ?_
  refine lv_iload_n hx hb dX0_readGlyph_1 rfl (lv_at hl 1 rfl) ?_
  refine lv_iconst (v := (-1)) hx hb dX0_readGlyph_2 (by decide) ?_
  refine k_callVi (As := [.int x, .int (-1)]) (rest := []) ⟨hx, hb, hml, hown, hts⟩ (c_X0_nearestGlyph l D cI q sh sp ld nm tx ds ct co kg ks x 8 (Nat.le_refl 8) hsx hsh) (cwV 2 hts gX0_readGlyph_X0_nearestGlyph rfl rfl rfl (by decide +kernel) ⟨Nat.le_of_ble_eq_true rfl, Nat.le_of_ble_eq_true rfl⟩) k_B_bl (k_B_of hP hK) (va_recv hK hP (ci := 0) (q0 := 0) rfl rfl) rfl hl.1 rfl (Nat.le_of_ble_eq_true rfl) dX0_readGlyph_3 ⟨Nat.zero_le _, Nat.zero_le _⟩ ?_
  refine lv_istore_n (lv' := [(3, .int (nI (nrN (dS sh x) 8 8))), (0, .ref (q 0)), (1, .int x), (2, .int d0)]) hx hb dX0_readGlyph_6 rfl hl (by decide) rfl (fun ls hl => ?_)
  refine lv_aload_n hx hb dX0_readGlyph_7 rfl (lv_at hl 1 rfl) ?_
  refine lv_iload_n hx hb dX0_readGlyph_8 rfl (lv_at hl 2 rfl) ?_
  refine lv_iload_n hx hb dX0_readGlyph_9 rfl (lv_at hl 0 rfl) ?_
  refine lv_as (y := ix (nrN (dS sh x) 8 8)) ((ix_lt (nr_lt8 _ _)).symm) ?_
  refine k_callVi (As := [.int x, .int (ix (nrN (dS sh x) 8 8))]) (rest := []) ⟨hx, hb, hml, hown, hts⟩ (c_X0_nearestGlyph l D cI q sh sp ld nm tx ds ct co kg ks x (nrN (dS sh x) 8 8) (Nat.le_of_lt (nr_lt8 _ _)) hsx hsh) (cwV 2 hts gX0_readGlyph_X0_nearestGlyph rfl rfl rfl (by decide +kernel) ⟨Nat.le_of_ble_eq_true rfl, Nat.le_of_ble_eq_true rfl⟩) k_B_bl (k_B_of hP hK) (va_recv hK hP (ci := 0) (q0 := 0) rfl rfl) rfl hl.1 rfl (Nat.le_of_ble_eq_true rfl) dX0_readGlyph_10 ⟨Nat.zero_le _, Nat.zero_le _⟩ ?_
  refine lv_istore (lv' := [(4, .int (nI (nrN (dS sh x) (nrN (dS sh x) 8 8) 8))), (3, .int (nI (nrN (dS sh x) 8 8))), (0, .ref (q 0)), (1, .int x), (2, .int d0)]) hx hb dX0_readGlyph_13 hl (by decide) rfl (fun ls hl => ?_)
  refine lv_iload_n hx hb dX0_readGlyph_15 rfl (lv_at hl 3 rfl) ?_
  refine lv_aload_n hx hb dX0_readGlyph_16 rfl (lv_at hl 2 rfl) ?_
  refine va_get (D := D) (ci := 0) (v := .ref (q 1)) (C := RX0) (T := TX0) (N := 10) hx hb hts hin hown hK hP 0 rfl rfl 0 (by decide) (hts (.fieldLink RX0 9 "SignRail" "shapes" "[I") (by decide +kernel)) (fun _ h9 => h9) rfl dX0_readGlyph_17 ?_
  refine lv_iload hx hb dX0_readGlyph_20 (lv_at hl 0 rfl) ?_
  refine n_iald hx hb hK hP 1 0 rfl rfl (k := (nrN (dS sh x) (nrN (dS sh x) 8 8) 8)) (nr_lt8 _ _) (Nat.le_of_ble_eq_true rfl) dX0_readGlyph_22 ?_
  refine k_callSi (As := [.int x, .int (sh (nrN (dS sh x) (nrN (dS sh x) 8 8) 8))]) (rest := []) ⟨hx, hb, hml, hown, hts⟩ (c_X0_differing l x (sh (nrN (dS sh x) (nrN (dS sh x) 8 8) 8)) hsx (hsh _ (nr_lt8 _ _))) (va_cwS 2 hts gX0_readGlyph_X0_differing rfl rfl rfl (by decide +kernel) ⟨Nat.le_of_ble_eq_true rfl, Nat.le_of_ble_eq_true rfl⟩) k_bl_tt (fun _ _ _ => trivial) rfl hl.1 rfl (Nat.le_of_ble_eq_true rfl) dX0_readGlyph_23 ⟨Nat.zero_le _, Nat.zero_le _⟩ ?_
  refine lv_iload_n hx hb dX0_readGlyph_26 rfl (lv_at hl 3 rfl) ?_
  refine lv_aload_n hx hb dX0_readGlyph_27 rfl (lv_at hl 2 rfl) ?_
  refine va_get (D := D) (ci := 0) (v := .ref (q 1)) (C := RX0) (T := TX0) (N := 10) hx hb hts hin hown hK hP 0 rfl rfl 0 (by decide) (hts (.fieldLink RX0 9 "SignRail" "shapes" "[I") (by decide +kernel)) (fun _ h9 => h9) rfl dX0_readGlyph_28 ?_
  refine lv_iload_n hx hb dX0_readGlyph_31 rfl (lv_at hl 1 rfl) ?_
  refine n_iald hx hb hK hP 1 0 rfl rfl (k := (nrN (dS sh x) 8 8)) (nr_lt8 _ _) (Nat.le_of_ble_eq_true rfl) dX0_readGlyph_32 ?_
  refine k_callSi (As := [.int x, .int (sh (nrN (dS sh x) 8 8))]) (rest := [.int (df x (sh (nrN (dS sh x) (nrN (dS sh x) 8 8) 8)))]) ⟨hx, hb, hml, hown, hts⟩ (c_X0_differing l x (sh (nrN (dS sh x) 8 8)) hsx (hsh _ (nr_lt8 _ _))) (va_cwS 2 hts gX0_readGlyph_X0_differing rfl rfl rfl (by decide +kernel) ⟨Nat.le_of_ble_eq_true rfl, Nat.le_of_ble_eq_true rfl⟩) k_bl_tt (fun _ _ _ => trivial) rfl hl.1 rfl (Nat.le_of_ble_eq_true rfl) dX0_readGlyph_33 ⟨Nat.zero_le _, Nat.zero_le _⟩ ?_
  refine lv_isub hx hb dX0_readGlyph_36 ?_
  refine lv_istore (lv' := [(5, .int ((df x (sh (nrN (dS sh x) (nrN (dS sh x) 8 8) 8))) - (df x (sh (nrN (dS sh x) 8 8))))), (4, .int (nI (nrN (dS sh x) (nrN (dS sh x) 8 8) 8))), (3, .int (nI (nrN (dS sh x) 8 8))), (0, .ref (q 0)), (1, .int x), (2, .int d0)]) hx hb dX0_readGlyph_37 hl (by decide) rfl (fun ls hl => ?_)
  refine lv_iload hx hb dX0_readGlyph_39 (lv_at hl 0 rfl) ?_
  refine lv_iload_n hx hb dX0_readGlyph_41 rfl (lv_at hl 5 rfl) ?_
  refine lv_icmp_lt (tgt := 49) hx hb dX0_readGlyph_42 (by decide) (fun c_42 => ?_) (fun c_42 => ?_)
  · refine lv_iload hx hb dX0_readGlyph_49 (lv_at hl 1 rfl) ?_
    exact k_iret hx hb hr hlocks dX0_readGlyph_51 (congrArg nI (if_pos c_42).symm)
  · refine lv_iload_n hx hb dX0_readGlyph_45 rfl (lv_at hl 2 rfl) ?_
    refine lv_goto (tgt := 51) hx hb dX0_readGlyph_46 (by decide) ?_
    exact k_iret hx hb hr hlocks dX0_readGlyph_51 (congrArg nI (if_neg c_42).symm)
set_option maxHeartbeats 4000000 in
set_option maxRecDepth 100000 in
theorem c_X0_readText (l : Launch) (D : va_G) (cI : ClassId) (q : Nat → Nat) (sh sp ld nm tx ds ct : Nat → Int32) (co : Int64) (kg : Int32) (ks : Nat → Int32) (w t k : Nat) (hw : w < 32) (ht : t < 32768) (hk : k ≤ 5) (htx : tx w = nI (32768 * k + t)) (hsh : ∀ g, g < 8 → S25 (sh g)) (hct : ∀ j, j < k → S25 (ct (w * 5 + j))) : k_M l yX0_readText wsX0_readText ({ frames := 4, cells := 0, slots := 0, locals := 90 } : Room) [.ref (q 0), .int (nI w)] (k_B D (wx cI q sh sp ld nm tx ds ct co kg ks) [(cI, .int)]) (some (.int (nI (32768 * k + rtN (rdS sh ct ds w) k)))) := by
  refine k_head (cc := cX0_readText) (maxL := 6) (ret := some .int) [(0, .ref (q 0)), (1, .int (nI w))] (by decide) rfl (Nat.le_of_ble_eq_true rfl) rfl ?_
  intro p e s m below meth c ls hx hb hr hml hown hts hlocks hname hB hl
  have hown : s.vm.findClass RX0 = some m.cls := hown
  obtain ⟨hP, hK⟩ := hB
  have hin : ∀ w ∈ wsX00, w ∈ wsX0_readText := fun w h => List.mem_cons_of_mem _ (List.mem_append_right _ h)
  refine lv_aload_n hx hb dX0_readText_0 rfl (lv_at hl 0 rfl) ?_
  refine va_get (D := D) (ci := 0) (v := .ref (q 5)) (C := RX0) (T := TX0) (N := 10) hx hb hts hin hown hK hP 0 rfl rfl 4 (by decide) (hts (.fieldLink RX0 22 "SignRail" "signTexts" "[I") (by decide +kernel)) (fun _ h9 => h9) rfl dX0_readText_1 ?_
  refine lv_iload_n hx hb dX0_readText_4 rfl (lv_at hl 1 rfl) ?_
  refine n_iald hx hb hK hP 5 0 rfl rfl (k := w) (by omega) (Nat.le_of_ble_eq_true rfl) dX0_readText_5 ?_
  refine lv_as (y := nI (32768 * k + t)) (htx) ?_
  refine k_callSi (As := [.int (nI (32768 * k + t))]) (rest := []) ⟨hx, hb, hml, hown, hts⟩ (c_X0_manyOf l t k (by omega) (by omega)) (va_cwS 1 hts gX0_readText_X0_manyOf rfl rfl rfl (by decide +kernel) ⟨Nat.le_of_ble_eq_true rfl, Nat.le_of_ble_eq_true rfl⟩) k_bl_tt (fun _ _ _ => trivial) rfl hl.1 rfl (Nat.le_of_ble_eq_true rfl) dX0_readText_6 ⟨Nat.zero_le _, Nat.zero_le _⟩ ?_
  refine lv_istore_n (lv' := [(2, .int (nI k)), (0, .ref (q 0)), (1, .int (nI w))]) hx hb dX0_readText_9 rfl hl (by decide) rfl (fun ls hl => ?_)
  refine lv_iconst (v := nI 0) hx hb dX0_readText_10 (by decide) ?_
  refine lv_istore_n (lv' := [(3, .int (nI 0)), (2, .int (nI k)), (0, .ref (q 0)), (1, .int (nI w))]) hx hb dX0_readText_11 rfl hl (by decide) rfl (fun ls hl => ?_)
  refine lv_iconst (v := nI 0) hx hb dX0_readText_12 (by decide) ?_
  refine lv_istore (lv' := [(4, .int (nI 0)), (3, .int (nI 0)), (2, .int (nI k)), (0, .ref (q 0)), (1, .int (nI w))]) hx hb dX0_readText_13 hl (by decide) rfl (fun ls hl => ?_)
  refine W.loop (fun i ls => lv_has ls 6 [(0, .ref (q 0)), (1, .int (nI w)), (2, .int (nI k)), (3, .int (nI (rtN (rdS sh ct ds w) i))), (4, .int (nI i))]) (k) (0) (by omega) (lv_sub hl [3, 4, 2, 1, 0] rfl) ?_
  intro i ls hi_15 hI_15 ih_15
  have hl := hI_15
  refine lv_iload hx hb dX0_readText_15 (lv_at hl 4 rfl) ?_
  refine lv_iload_n hx hb dX0_readText_17 rfl (lv_at hl 2 rfl) ?_
  refine n_icmp_ge (tgt := 60) hx hb dX0_readText_18 (by decide) (by omega) (by omega) (fun c_18 => ?_) (fun c_18 => ?_)
  · have hrt := rtN_lt (r := rdS sh ct ds w) (fun _ => rdG_lt _ _) i
    have hp8 := p8_le (k := i) (by omega)
    refine lv_iload_n hx hb dX0_readText_60 rfl (lv_at hl 3 rfl) ?_
    refine lv_iload_n hx hb dX0_readText_61 rfl (lv_at hl 2 rfl) ?_
    refine k_callSi (As := [.int (nI (rtN (rdS sh ct ds w) i)), .int (nI k)]) (rest := []) ⟨hx, hb, hml, hown, hts⟩ (c_X0_pack l (rtN (rdS sh ct ds w) i) k (by omega) (by omega)) (va_cwS 2 hts gX0_readText_X0_pack rfl rfl rfl (by decide +kernel) ⟨Nat.le_of_ble_eq_true rfl, Nat.le_of_ble_eq_true rfl⟩) k_bl_tt (fun _ _ _ => trivial) rfl hl.1 rfl (Nat.le_of_ble_eq_true rfl) dX0_readText_62 ⟨Nat.zero_le _, Nat.zero_le _⟩ ?_
    exact k_iret hx hb hr hlocks dX0_readText_65 (by rw [show i = k from by omega])
  · refine lv_aload_n hx hb dX0_readText_21 rfl (lv_at hl 0 rfl) ?_
    refine lv_aload_n hx hb dX0_readText_22 rfl (lv_at hl 0 rfl) ?_
    refine va_get (D := D) (ci := 0) (v := .ref (q 7)) (C := RX0) (T := TX0) (N := 10) hx hb hts hin hown hK hP 0 rfl rfl 6 (by decide) (hts (.fieldLink RX0 28 "SignRail" "signShapes" "[I") (by decide +kernel)) (fun _ h9 => h9) rfl dX0_readText_23 ?_
    refine lv_iload_n hx hb dX0_readText_26 rfl (lv_at hl 1 rfl) ?_
    refine lv_iconst (v := nI 5) hx hb dX0_readText_27 (by decide) ?_
    refine lv_imul hx hb dX0_readText_28 ?_
    refine lv_as (y := nI (w * 5)) (pk_mul _ _) ?_
    refine lv_iload hx hb dX0_readText_29 (lv_at hl 4 rfl) ?_
    refine lv_iadd hx hb dX0_readText_31 ?_
    refine lv_as (y := nI ((w * 5) + i)) (nI_add _ _) ?_
    refine n_iald hx hb hK hP 7 0 rfl rfl (k := ((w * 5) + i)) (by omega) (Nat.le_of_ble_eq_true rfl) dX0_readText_32 ?_
    refine lv_aload_n hx hb dX0_readText_33 rfl (lv_at hl 0 rfl) ?_
    refine va_get (D := D) (ci := 0) (v := .ref (q 6)) (C := RX0) (T := TX0) (N := 10) hx hb hts hin hown hK hP 0 rfl rfl 5 (by decide) (hts (.fieldLink RX0 25 "SignRail" "signDistances" "[I") (by decide +kernel)) (fun _ h9 => h9) rfl dX0_readText_34 ?_
    refine lv_iload_n hx hb dX0_readText_37 rfl (lv_at hl 1 rfl) ?_
    refine n_iald hx hb hK hP 6 0 rfl rfl (k := w) (by omega) (Nat.le_of_ble_eq_true rfl) dX0_readText_38 ?_
    refine k_callVi (As := [.int (ct ((w * 5) + i)), .int (ds w)]) (rest := []) ⟨hx, hb, hml, hown, hts⟩ (c_X0_readGlyph l D cI q sh sp ld nm tx ds ct co kg ks (ct ((w * 5) + i)) (ds w) (hct i (by omega)) hsh) (cwV 2 hts gX0_readText_X0_readGlyph rfl rfl rfl (by decide +kernel) ⟨Nat.le_of_ble_eq_true rfl, Nat.le_of_ble_eq_true rfl⟩) k_B_bl (k_B_of hP hK) (va_recv hK hP (ci := 0) (q0 := 0) rfl rfl) rfl hl.1 rfl (Nat.le_of_ble_eq_true rfl) dX0_readText_39 ⟨Nat.zero_le _, Nat.zero_le _⟩ ?_
    refine lv_istore (lv' := [(5, .int (nI (rdG (dS sh (ct ((w * 5) + i))) (ds w)))), (0, .ref (q 0)), (1, .int (nI w)), (2, .int (nI k)), (3, .int (nI (rtN (rdS sh ct ds w) i))), (4, .int (nI i))]) hx hb dX0_readText_42 hl (by decide) rfl (fun ls hl => ?_)
    refine lv_iload_n hx hb dX0_readText_44 rfl (lv_at hl 4 rfl) ?_
    refine lv_iload hx hb dX0_readText_45 (lv_at hl 0 rfl) ?_
    refine lv_iconst (v := nI 3) hx hb dX0_readText_47 (by decide) ?_
    refine lv_iload hx hb dX0_readText_48 (lv_at hl 5 rfl) ?_
    refine lv_imul hx hb dX0_readText_50 ?_
    refine lv_as (y := nI (3 * i)) (pk_mul _ _) ?_
    refine lv_ishl hx hb dX0_readText_51 ?_
    refine lv_ior hx hb dX0_readText_52 ?_
    refine lv_as (y := nI (rtN (rdS sh ct ds w) (i + 1))) (rt_or (rtN_lt (fun _ => rdG_lt _ _) _) (rdG_lt _ _) (by omega)) ?_
    refine lv_istore_n (lv' := [(3, .int (nI (rtN (rdS sh ct ds w) (i + 1)))), (5, .int (nI (rdG (dS sh (ct ((w * 5) + i))) (ds w)))), (0, .ref (q 0)), (1, .int (nI w)), (2, .int (nI k)), (4, .int (nI i))]) hx hb dX0_readText_53 rfl hl (by decide) rfl (fun ls hl => ?_)
    refine lv_iinc (v := nI (i + 1)) (lv' := [(4, .int (nI (i + 1))), (3, .int (nI (rtN (rdS sh ct ds w) (i + 1)))), (5, .int (nI (rdG (dS sh (ct ((w * 5) + i))) (ds w)))), (0, .ref (q 0)), (1, .int (nI w)), (2, .int (nI k))]) hx hb dX0_readText_54 hl (k := 5) rfl (nI_inc _) (by decide) rfl (fun ls hl => ?_)
    refine lv_goto (tgt := 15) hx hb dX0_readText_57 (by decide) ?_
    exact ih_15 _ (by omega) (lv_sub hl [3, 4, 5, 1, 0] rfl)
set_option maxHeartbeats 4000000 in
set_option maxRecDepth 100000 in
theorem c_X0_nextWay (l : Launch) (D : va_G) (cI : ClassId) (q : Nat → Nat) (sh sp ld nm tx ds ct : Nat → Int32) (co : Int64) (kg : Int32) (ks : Nat → Int32) (p0 : Nat) (hp : p0 < 8) (gt gk : Nat) (hgt : gt < 32768) (hgk : gk ≤ 5) (tki : Int32) (tk : Nat → Bool) (hTk : tkR tki tk) (T K Ld : Nat → Nat) (hS : ∀ w, w < 32 → T w < 32768 ∧ K w ≤ 5 ∧ tx w = nI (32768 * K w + T w) ∧ ∀ j, j < K w → S25 (ct (w * 5 + j))) (hL : ∀ w, w < 32 → Ld w ≤ 8 ∧ ld w = ix (Ld w)) (hsh : ∀ g, g < 8 → S25 (sh g)) : k_M l yX0_nextWay wsX0_nextWay ({ frames := 5, cells := 0, slots := 0, locals := 115 } : Room) [.ref (q 0), .int (nI p0), .int (nI (32768 * gk + gt)), .int tki] (k_B D (wx cI q sh sp ld nm tx ds ct co kg ks) [(cI, .int)]) (some (.int (wv p0 (nx (toldC sh ct ds K gk gt) Ld tk p0)))) := by
  refine k_head (cc := cX0_nextWay) (maxL := 7) (ret := some .int) [(0, .ref (q 0)), (1, .int (nI p0)), (2, .int (nI (32768 * gk + gt))), (3, .int tki)] (by decide) rfl (Nat.le_of_ble_eq_true rfl) rfl ?_
  intro p e s m below meth c ls hx hb hr hml hown hts hlocks hname hB hl
  have hown : s.vm.findClass RX0 = some m.cls := hown
  obtain ⟨hP, hK⟩ := hB
  have hin : ∀ w ∈ wsX00, w ∈ wsX0_nextWay := fun w h => List.mem_cons_of_mem _ (List.mem_append_right _ h)
  refine lv_iconst (v := (-1)) hx hb dX0_nextWay_0 (by decide) ?_
  refine lv_istore (lv' := [(4, .int (-1)), (0, .ref (q 0)), (1, .int (nI p0)), (2, .int (nI (32768 * gk + gt))), (3, .int tki)]) hx hb dX0_nextWay_1 hl (by decide) rfl (fun ls hl => ?_)
  refine lv_iconst (v := nI 0) hx hb dX0_nextWay_3 (by decide) ?_
  refine lv_istore (lv' := [(5, .int (nI 0)), (4, .int (-1)), (0, .ref (q 0)), (1, .int (nI p0)), (2, .int (nI (32768 * gk + gt))), (3, .int tki)]) hx hb dX0_nextWay_4 hl (by decide) rfl (fun ls hl => ?_)
  refine W.loop (fun i ls => ∃ (u : Int32), (fb (fun e => decide (Ld (4 * p0 + e) ≠ 8) && (toldC sh ct ds K gk gt) (4 * p0 + e)) i = 4) ∧ (u = wv p0 (fb (fun e => decide (Ld (4 * p0 + e) ≠ 8) && !tk (4 * p0 + e)) i)) ∧ lv_has ls 7 [(0, .ref (q 0)), (1, .int (nI p0)), (2, .int (nI (32768 * gk + gt))), (3, .int tki), (4, .int u), (5, .int (nI i))]) (4) (0) (by omega) ⟨(-1), rfl, rfl, lv_sub hl [2, 3, 4, 5, 1, 0] rfl⟩ ?_
  intro i ls hi_6 hI_6 ih_6
  obtain ⟨u, hf0_6, hf1_6, hl⟩ := hI_6
  refine lv_iload hx hb dX0_nextWay_6 (lv_at hl 5 rfl) ?_
  refine lv_iconst (v := nI 4) hx hb dX0_nextWay_8 (by decide) ?_
  refine n_icmp_ge (tgt := 69) hx hb dX0_nextWay_9 (by decide) (by omega) (by omega) (fun c_9 => ?_) (fun c_9 => ?_)
  · refine lv_iload hx hb dX0_nextWay_69 (lv_at hl 4 rfl) ?_
    exact k_iret hx hb hr hlocks dX0_nextWay_71 (by rw [show i = 4 from by omega] at hf0_6 hf1_6; rw [nx, nx_n hf0_6]; exact hf1_6)
  · refine lv_iload_n hx hb dX0_nextWay_12 rfl (lv_at hl 1 rfl) ?_
    refine lv_iload hx hb dX0_nextWay_13 (lv_at hl 5 rfl) ?_
    refine k_callSi (As := [.int (nI p0), .int (nI i)]) (rest := []) ⟨hx, hb, hml, hown, hts⟩ (c_X0_wayOf l p0 i) (va_cwS 2 hts gX0_nextWay_X0_wayOf rfl rfl rfl (by decide +kernel) ⟨Nat.le_of_ble_eq_true rfl, Nat.le_of_ble_eq_true rfl⟩) k_bl_tt (fun _ _ _ => trivial) rfl hl.1 rfl (Nat.le_of_ble_eq_true rfl) dX0_nextWay_15 ⟨Nat.zero_le _, Nat.zero_le _⟩ ?_
    refine lv_as (y := nI (4 * p0 + i)) (by rw [Nat.mul_comm p0 4]) ?_
    refine lv_istore (lv' := [(6, .int (nI (4 * p0 + i))), (0, .ref (q 0)), (1, .int (nI p0)), (2, .int (nI (32768 * gk + gt))), (3, .int tki), (4, .int u), (5, .int (nI i))]) hx hb dX0_nextWay_18 hl (by decide) rfl (fun ls hl => ?_)
    refine lv_aload_n hx hb dX0_nextWay_20 rfl (lv_at hl 1 rfl) ?_
    refine va_get (D := D) (ci := 0) (v := .ref (q 3)) (C := RX0) (T := TX0) (N := 10) hx hb hts hin hown hK hP 0 rfl rfl 2 (by decide) (hts (.fieldLink RX0 16 "SignRail" "leads" "[I") (by decide +kernel)) (fun _ h9 => h9) rfl dX0_nextWay_21 ?_
    refine lv_iload hx hb dX0_nextWay_24 (lv_at hl 0 rfl) ?_
    refine n_iald hx hb hK hP 3 0 rfl rfl (k := (4 * p0 + i)) (by omega) (Nat.le_of_ble_eq_true rfl) dX0_nextWay_26 ?_
    refine lv_as (y := ix (Ld (4 * p0 + i))) ((hL _ (by omega)).2) ?_
    refine lv_iconst (v := (-1)) hx hb dX0_nextWay_27 (by decide) ?_
    refine lv_icmp_eq (tgt := 63) hx hb dX0_nextWay_28 (by decide) (fun c_28 => ?_) (fun c_28 => ?_)
    · have hl8 := (ix_m1 (hL _ (by omega)).1).mp c_28
      refine lv_iinc (v := nI (i + 1)) (lv' := [(5, .int (nI (i + 1))), (6, .int (nI (4 * p0 + i))), (0, .ref (q 0)), (1, .int (nI p0)), (2, .int (nI (32768 * gk + gt))), (3, .int tki), (4, .int u)]) hx hb dX0_nextWay_63 hl (k := 6) rfl (nI_inc _) (by decide) rfl (fun ls hl => ?_)
      refine lv_goto (tgt := 6) hx hb dX0_nextWay_66 (by decide) ?_
      exact ih_6 _ (by omega) ⟨u, by rw [fb_f (by simp [hl8])]; exact hf0_6, by rw [fb_f (by simp [hl8])]; exact hf1_6, lv_sub hl [2, 3, 4, 5, 6, 0] rfl⟩
    · have hl8 : Ld (4 * p0 + i) ≠ 8 := fun q => c_28 ((ix_m1 (hL _ (by omega)).1).mpr q)
      refine lv_aload_n hx hb dX0_nextWay_31 rfl (lv_at hl 1 rfl) ?_
      refine lv_iload hx hb dX0_nextWay_32 (lv_at hl 0 rfl) ?_
      refine k_callVi (As := [.int (nI (4 * p0 + i))]) (rest := []) ⟨hx, hb, hml, hown, hts⟩ (c_X0_readText l D cI q sh sp ld nm tx ds ct co kg ks (4 * p0 + i) (T (4 * p0 + i)) (K (4 * p0 + i)) (by omega) (hS _ (by omega)).1 (hS _ (by omega)).2.1 (hS _ (by omega)).2.2.1 hsh (hS _ (by omega)).2.2.2) (cwV 1 hts gX0_nextWay_X0_readText rfl rfl rfl (by decide +kernel) ⟨Nat.le_of_ble_eq_true rfl, Nat.le_of_ble_eq_true rfl⟩) k_B_bl (k_B_of hP hK) (va_recv hK hP (ci := 0) (q0 := 0) rfl rfl) rfl hl.1 rfl (Nat.le_of_ble_eq_true rfl) dX0_nextWay_34 ⟨Nat.zero_le _, Nat.zero_le _⟩ ?_
      have hk5 := (hS (4 * p0 + i) (by omega)).2.1
      have hrt := rtN_lt (r := rdS sh ct ds (4 * p0 + i)) (fun _ => rdG_lt _ _) (K (4 * p0 + i))
      have hp8 := p8_le (k := K (4 * p0 + i)) hk5
      refine lv_iload_n hx hb dX0_nextWay_37 rfl (lv_at hl 3 rfl) ?_
      refine n_icmp_ne (tgt := 44) hx hb dX0_nextWay_38 (by decide) (by omega) (by omega) (fun c_38 => ?_) (fun c_38 => ?_)
      · have c_38 : rdas sh ct ds (4 * p0 + i) (K (4 * p0 + i)) gk gt = false := decide_eq_false (fun q => c_38 (by have h1 := q.1; have h2 := q.2; omega))
        refine lv_iload hx hb dX0_nextWay_44 (lv_at hl 5 rfl) ?_
        refine lv_iconst (v := (-1)) hx hb dX0_nextWay_46 (by decide) ?_
        refine lv_icmp_ne (tgt := 63) hx hb dX0_nextWay_47 (by decide) (fun c_47 => ?_) (fun c_47 => ?_)
        · refine lv_iinc (v := nI (i + 1)) (lv' := [(5, .int (nI (i + 1))), (6, .int (nI (4 * p0 + i))), (0, .ref (q 0)), (1, .int (nI p0)), (2, .int (nI (32768 * gk + gt))), (3, .int tki), (4, .int u)]) hx hb dX0_nextWay_63 hl (k := 6) rfl (nI_inc _) (by decide) rfl (fun ls hl => ?_)
          refine lv_goto (tgt := 6) hx hb dX0_nextWay_66 (by decide) ?_
          exact ih_6 _ (by omega) ⟨u, by rw [fb_f (by simp [c_38])]; exact hf0_6, by rw [fb_n (fun q => c_47 (by rw [hf1_6, q]; rfl))]; exact hf1_6, lv_sub hl [2, 3, 4, 5, 6, 0] rfl⟩
        · refine lv_iload_n hx hb dX0_nextWay_50 rfl (lv_at hl 4 rfl) ?_
          refine lv_iconst (v := nI 1) hx hb dX0_nextWay_51 (by decide) ?_
          refine lv_iload hx hb dX0_nextWay_52 (lv_at hl 0 rfl) ?_
          refine lv_ishl hx hb dX0_nextWay_54 ?_
          refine lv_iand hx hb dX0_nextWay_55 ?_
          refine lv_if_ne (tgt := 63) hx hb dX0_nextWay_56 (by decide) (fun c_56 => ?_) (fun c_56 => ?_)
          · refine lv_iinc (v := nI (i + 1)) (lv' := [(5, .int (nI (i + 1))), (6, .int (nI (4 * p0 + i))), (0, .ref (q 0)), (1, .int (nI p0)), (2, .int (nI (32768 * gk + gt))), (3, .int tki), (4, .int u)]) hx hb dX0_nextWay_63 hl (k := 6) rfl (nI_inc _) (by decide) rfl (fun ls hl => ?_)
            refine lv_goto (tgt := 6) hx hb dX0_nextWay_66 (by decide) ?_
            exact ih_6 _ (by omega) ⟨u, by rw [fb_f (by simp [c_38])]; exact hf0_6, by rw [fb_f (by simp [ts_nf (fun q => c_56 ((hTk _ (by omega)).mpr q))])]; exact hf1_6, lv_sub hl [2, 3, 4, 5, 6, 0] rfl⟩
          · refine lv_iload hx hb dX0_nextWay_59 (lv_at hl 0 rfl) ?_
            refine lv_istore (lv' := [(4, .int (nI (4 * p0 + i))), (6, .int (nI (4 * p0 + i))), (0, .ref (q 0)), (1, .int (nI p0)), (2, .int (nI (32768 * gk + gt))), (3, .int tki), (5, .int (nI i))]) hx hb dX0_nextWay_61 hl (by decide) rfl (fun ls hl => ?_)
            refine lv_iinc (v := nI (i + 1)) (lv' := [(5, .int (nI (i + 1))), (4, .int (nI (4 * p0 + i))), (6, .int (nI (4 * p0 + i))), (0, .ref (q 0)), (1, .int (nI p0)), (2, .int (nI (32768 * gk + gt))), (3, .int tki)]) hx hb dX0_nextWay_63 hl (k := 6) rfl (nI_inc _) (by decide) rfl (fun ls hl => ?_)
            refine lv_goto (tgt := 6) hx hb dX0_nextWay_66 (by decide) ?_
            exact ih_6 _ (by omega) ⟨nI (4 * p0 + i), by rw [fb_f (by simp [c_38])]; exact hf0_6, by rw [fb_t ((wv_m1 hp (by rcases fb_le (fun e => decide (Ld (4 * p0 + e) ≠ 8) && !tk (4 * p0 + e)) i (by omega) with q | q <;> omega)).mp (by rw [← hf1_6]; exact c_47)) (by simp [hl8, (hTk _ (by omega)).mp c_56])]; exact (wv_lt c_9).symm, lv_sub hl [3, 4, 5, 6, 1, 0] rfl⟩
      · have c_38 : rdas sh ct ds (4 * p0 + i) (K (4 * p0 + i)) gk gt = true := decide_eq_true ⟨by omega, by omega⟩
        refine lv_iload hx hb dX0_nextWay_41 (lv_at hl 0 rfl) ?_
        exact k_iret hx hb hr hlocks dX0_nextWay_43 (by rw [nx, nx_t hf0_6 (by simp [hl8, c_38]) c_9, wv_lt c_9])
set_option maxHeartbeats 4000000 in
set_option maxRecDepth 100000 in
theorem c_X0_stepsToArrive (l : Launch) (D : va_G) (cI : ClassId) (q : Nat → Nat) (sh sp ld nm tx ds ct : Nat → Int32) (co : Int64) (kg : Int32) (ks : Nat → Int32) (p1 : Nat) (hp : p1 < 8) (gt gk : Nat) (hgt : gt < 32768) (hgk : gk ≤ 5) (T K Ld : Nat → Nat) (hS : ∀ w, w < 32 → T w < 32768 ∧ K w ≤ 5 ∧ tx w = nI (32768 * K w + T w) ∧ ∀ j, j < K w → S25 (ct (w * 5 + j))) (hL : ∀ w, w < 32 → Ld w ≤ 8 ∧ ld w = ix (Ld w)) (hsh : ∀ g, g < 8 → S25 (sh g)) (NT NK : Nat → Nat) (hN : ∀ p, p < 8 → NT p < 32768 ∧ NK p ≤ 5 ∧ nm p = nI (32768 * NK p + NT p)) : k_M l yX0_stepsToArrive wsX0_stepsToArrive ({ frames := 6, cells := 0, slots := 0, locals := 141 } : Room) [.ref (q 0), .int (nI p1), .int (nI (32768 * gk + gt))] (k_B D (wx cI q sh sp ld nm tx ds ct co kg ks) [(cI, .int)]) (some (.int (sa (toldC sh ct ds K gk gt) Ld (arrC NK NT gk gt) 31 0 p1 tk0))) := by
  refine k_head (cc := cX0_stepsToArrive) (maxL := 7) (ret := some .int) [(0, .ref (q 0)), (1, .int (nI p1)), (2, .int (nI (32768 * gk + gt)))] (by decide) rfl (Nat.le_of_ble_eq_true rfl) rfl ?_
  intro p e s m below meth c ls hx hb hr hml hown hts hlocks hname hB hl
  have hown : s.vm.findClass RX0 = some m.cls := hown
  obtain ⟨hP, hK⟩ := hB
  have hin : ∀ w ∈ wsX00, w ∈ wsX0_stepsToArrive := fun w h => List.mem_cons_of_mem _ (List.mem_append_right _ h)
  refine lv_iload_n hx hb dX0_stepsToArrive_0 rfl (lv_at hl 1 rfl) ?_
  refine lv_istore_n (lv' := [(3, .int (nI p1)), (0, .ref (q 0)), (1, .int (nI p1)), (2, .int (nI (32768 * gk + gt)))]) hx hb dX0_stepsToArrive_1 rfl hl (by decide) rfl (fun ls hl => ?_)
  refine lv_iconst (v := nI 0) hx hb dX0_stepsToArrive_2 (by decide) ?_
  refine lv_istore (lv' := [(4, .int (nI 0)), (3, .int (nI p1)), (0, .ref (q 0)), (1, .int (nI p1)), (2, .int (nI (32768 * gk + gt)))]) hx hb dX0_stepsToArrive_3 hl (by decide) rfl (fun ls hl => ?_)
  refine lv_iconst (v := nI 0) hx hb dX0_stepsToArrive_5 (by decide) ?_
  refine lv_istore (lv' := [(5, .int (nI 0)), (4, .int (nI 0)), (3, .int (nI p1)), (0, .ref (q 0)), (1, .int (nI p1)), (2, .int (nI (32768 * gk + gt)))]) hx hb dX0_stepsToArrive_6 hl (by decide) rfl (fun ls hl => ?_)
  refine W.loop (fun i ls => ∃ (pl1 : Nat) (tki : Int32) (tk : Nat → Bool), (pl1 < 8) ∧ (tkR tki tk) ∧ (sa (toldC sh ct ds K gk gt) Ld (arrC NK NT gk gt) (31 - i) i pl1 tk = sa (toldC sh ct ds K gk gt) Ld (arrC NK NT gk gt) 31 0 p1 tk0) ∧ lv_has ls 7 [(0, .ref (q 0)), (1, .int (nI p1)), (2, .int (nI (32768 * gk + gt))), (3, .int (nI pl1)), (4, .int tki), (5, .int (nI i))]) (31) (0) (by omega) ⟨p1, nI 0, tk0, hp, tkR_0, rfl, lv_sub hl [3, 4, 5, 2, 1, 0] rfl⟩ ?_
  intro i ls hi_8 hI_8 ih_8
  obtain ⟨pl1, tki, tk, hf0_8, hf1_8, hf2_8, hl⟩ := hI_8
  refine lv_iload hx hb dX0_stepsToArrive_8 (lv_at hl 5 rfl) ?_
  refine lv_bipush (v := nI 30) hx hb dX0_stepsToArrive_10 (by decide) ?_
  refine n_icmp_gt (tgt := 69) hx hb dX0_stepsToArrive_12 (by decide) (by omega) (by omega) (fun c_12 => ?_) (fun c_12 => ?_)
  · refine lv_iconst (v := (-1)) hx hb dX0_stepsToArrive_69 (by decide) ?_
    exact k_iret hx hb hr hlocks dX0_stepsToArrive_70 (by rw [← hf2_8, show 31 - i = 0 from by omega]; rfl)
  · have hn1 := hN pl1 hf0_8
    refine lv_aload_n hx hb dX0_stepsToArrive_15 rfl (lv_at hl 0 rfl) ?_
    refine va_get (D := D) (ci := 0) (v := .ref (q 4)) (C := RX0) (T := TX0) (N := 10) hx hb hts hin hown hK hP 0 rfl rfl 3 (by decide) (hts (.fieldLink RX0 19 "SignRail" "names" "[I") (by decide +kernel)) (fun _ h9 => h9) rfl dX0_stepsToArrive_16 ?_
    refine lv_iload_n hx hb dX0_stepsToArrive_19 rfl (lv_at hl 3 rfl) ?_
    refine n_iald hx hb hK hP 4 0 rfl rfl (k := pl1) (by omega) (Nat.le_of_ble_eq_true rfl) dX0_stepsToArrive_20 ?_
    refine lv_as (y := nI (32768 * (NK pl1) + (NT pl1))) (hn1.2.2) ?_
    refine lv_iload_n hx hb dX0_stepsToArrive_21 rfl (lv_at hl 2 rfl) ?_
    refine n_icmp_ne (tgt := 28) hx hb dX0_stepsToArrive_22 (by decide) (by omega) (by omega) (fun c_22 => ?_) (fun c_22 => ?_)
    · refine lv_aload_n hx hb dX0_stepsToArrive_28 rfl (lv_at hl 0 rfl) ?_
      refine lv_iload_n hx hb dX0_stepsToArrive_29 rfl (lv_at hl 3 rfl) ?_
      refine lv_iload_n hx hb dX0_stepsToArrive_30 rfl (lv_at hl 2 rfl) ?_
      refine lv_iload hx hb dX0_stepsToArrive_31 (lv_at hl 4 rfl) ?_
      refine k_callVi (As := [.int (nI pl1), .int (nI (32768 * gk + gt)), .int tki]) (rest := []) ⟨hx, hb, hml, hown, hts⟩ (c_X0_nextWay l D cI q sh sp ld nm tx ds ct co kg ks pl1 hf0_8 gt gk hgt hgk tki tk hf1_8 T K Ld hS hL hsh) (cwV 3 hts gX0_stepsToArrive_X0_nextWay rfl rfl rfl (by decide +kernel) ⟨Nat.le_of_ble_eq_true rfl, Nat.le_of_ble_eq_true rfl⟩) k_B_bl (k_B_of hP hK) (va_recv hK hP (ci := 0) (q0 := 0) rfl rfl) rfl hl.1 rfl (Nat.le_of_ble_eq_true rfl) dX0_stepsToArrive_33 ⟨Nat.zero_le _, Nat.zero_le _⟩ ?_
      refine lv_istore (lv' := [(6, .int (wv pl1 (nx (toldC sh ct ds K gk gt) Ld tk pl1))), (0, .ref (q 0)), (1, .int (nI p1)), (2, .int (nI (32768 * gk + gt))), (3, .int (nI pl1)), (4, .int tki), (5, .int (nI i))]) hx hb dX0_stepsToArrive_36 hl (by decide) rfl (fun ls hl => ?_)
      refine lv_iload hx hb dX0_stepsToArrive_38 (lv_at hl 0 rfl) ?_
      refine lv_iconst (v := (-1)) hx hb dX0_stepsToArrive_40 (by decide) ?_
      refine lv_icmp_ne (tgt := 46) hx hb dX0_stepsToArrive_41 (by decide) (fun c_41 => ?_) (fun c_41 => ?_)
      · have hnx : nx (toldC sh ct ds K gk gt) Ld tk pl1 < 4 ∧ Ld (4 * pl1 + nx (toldC sh ct ds K gk gt) Ld tk pl1) ≠ 8 := nx_lt.resolve_left (fun q => c_41 (by rw [q]; rfl))
        rw [wv_lt hnx.1] at hl
        generalize hne : nx (toldC sh ct ds K gk gt) Ld tk pl1 = ne at hl hnx
        have hle := (hL (4 * pl1 + ne) (by omega)).1
        refine lv_iload hx hb dX0_stepsToArrive_46 (lv_at hl 5 rfl) ?_
        refine lv_iconst (v := nI 1) hx hb dX0_stepsToArrive_48 (by decide) ?_
        refine lv_iload hx hb dX0_stepsToArrive_49 (lv_at hl 0 rfl) ?_
        refine lv_ishl hx hb dX0_stepsToArrive_51 ?_
        refine lv_ior hx hb dX0_stepsToArrive_52 ?_
        refine lv_istore (lv' := [(4, .int (tki ||| ((nI 1) <<< ((nI (4 * pl1 + ne)) &&& 31)))), (6, .int (nI (4 * pl1 + ne))), (0, .ref (q 0)), (1, .int (nI p1)), (2, .int (nI (32768 * gk + gt))), (3, .int (nI pl1)), (5, .int (nI i))]) hx hb dX0_stepsToArrive_53 hl (by decide) rfl (fun ls hl => ?_)
        refine lv_aload_n hx hb dX0_stepsToArrive_55 rfl (lv_at hl 2 rfl) ?_
        refine va_get (D := D) (ci := 0) (v := .ref (q 3)) (C := RX0) (T := TX0) (N := 10) hx hb hts hin hown hK hP 0 rfl rfl 2 (by decide) (hts (.fieldLink RX0 16 "SignRail" "leads" "[I") (by decide +kernel)) (fun _ h9 => h9) rfl dX0_stepsToArrive_56 ?_
        refine lv_iload hx hb dX0_stepsToArrive_59 (lv_at hl 1 rfl) ?_
        refine n_iald hx hb hK hP 3 0 rfl rfl (k := (4 * pl1 + ne)) (by omega) (Nat.le_of_ble_eq_true rfl) dX0_stepsToArrive_61 ?_
        refine lv_as (y := nI (Ld (4 * pl1 + ne))) (((hL _ (by omega)).2).trans (ix_lt (by have := hnx.2; omega))) ?_
        refine lv_istore_n (lv' := [(3, .int (nI (Ld (4 * pl1 + ne)))), (4, .int (tki ||| ((nI 1) <<< ((nI (4 * pl1 + ne)) &&& 31)))), (6, .int (nI (4 * pl1 + ne))), (0, .ref (q 0)), (1, .int (nI p1)), (2, .int (nI (32768 * gk + gt))), (5, .int (nI i))]) hx hb dX0_stepsToArrive_62 rfl hl (by decide) rfl (fun ls hl => ?_)
        refine lv_iinc (v := nI (i + 1)) (lv' := [(5, .int (nI (i + 1))), (3, .int (nI (Ld (4 * pl1 + ne)))), (4, .int (tki ||| ((nI 1) <<< ((nI (4 * pl1 + ne)) &&& 31)))), (6, .int (nI (4 * pl1 + ne))), (0, .ref (q 0)), (1, .int (nI p1)), (2, .int (nI (32768 * gk + gt)))]) hx hb dX0_stepsToArrive_63 hl (k := 6) rfl (nI_inc _) (by decide) rfl (fun ls hl => ?_)
        refine lv_goto (tgt := 8) hx hb dX0_stepsToArrive_66 (by decide) ?_
        exact ih_8 _ (by omega) ⟨Ld (4 * pl1 + ne), tki ||| ((nI 1) <<< ((nI (4 * pl1 + ne)) &&& 31)), tkA tk (4 * pl1 + ne), by have := hnx.2; omega, tkR_add hf1_8 (by omega), by rw [← hf2_8, show 31 - i = (31 - (i + 1)) + 1 from by omega, sa_s (decide_eq_false (fun q => c_22 (by rw [q.1, q.2]))) hne hnx.1], lv_sub hl [4, 5, 6, 1, 2, 0] rfl⟩
      · refine lv_iconst (v := (-1)) hx hb dX0_stepsToArrive_44 (by decide) ?_
        exact k_iret hx hb hr hlocks dX0_stepsToArrive_45 (by rw [← hf2_8, show 31 - i = (30 - i) + 1 from by omega, sa_l (decide_eq_false (fun q => c_22 (by rw [q.1, q.2]))) ((wv_m1 hf0_8 (by rcases nx_lt (told := toldC sh ct ds K gk gt) (Ld := Ld) (tk := tk) (p := pl1) with q | q <;> omega)).mp c_41)])
    · refine lv_iload hx hb dX0_stepsToArrive_25 (lv_at hl 5 rfl) ?_
      exact k_iret hx hb hr hlocks dX0_stepsToArrive_27 (by rw [← hf2_8, show 31 - i = (30 - i) + 1 from by omega, sa_a (decide_eq_true ⟨by omega, by omega⟩)])
set_option maxHeartbeats 4000000 in
set_option maxRecDepth 100000 in
theorem c_X0_placeReached (l : Launch) (D : va_G) (cI : ClassId) (q : Nat → Nat) (sh sp ld nm tx ds ct : Nat → Int32) (co : Int64) (kg : Int32) (ks : Nat → Int32) (p1 : Nat) (hp : p1 < 8) (gt gk : Nat) (hgt : gt < 32768) (hgk : gk ≤ 5) (st : Nat) (hst : st ≤ 30) (T K Ld : Nat → Nat) (hS : ∀ w, w < 32 → T w < 32768 ∧ K w ≤ 5 ∧ tx w = nI (32768 * K w + T w) ∧ ∀ j, j < K w → S25 (ct (w * 5 + j))) (hL : ∀ w, w < 32 → Ld w ≤ 8 ∧ ld w = ix (Ld w)) (hsh : ∀ g, g < 8 → S25 (sh g)) (NT NK : Nat → Nat) (hN : ∀ p, p < 8 → NT p < 32768 ∧ NK p ≤ 5 ∧ nm p = nI (32768 * NK p + NT p)) : k_M l yX0_placeReached wsX0_placeReached ({ frames := 6, cells := 0, slots := 0, locals := 141 } : Room) [.ref (q 0), .int (nI p1), .int (nI (32768 * gk + gt)), .int (nI st)] (k_B D (wx cI q sh sp ld nm tx ds ct co kg ks) [(cI, .int)]) (some (.int (nI (pl (toldC sh ct ds K gk gt) Ld (arrC NK NT gk gt) st p1 tk0)))) := by
  refine k_head (cc := cX0_placeReached) (maxL := 8) (ret := some .int) [(0, .ref (q 0)), (1, .int (nI p1)), (2, .int (nI (32768 * gk + gt))), (3, .int (nI st))] (by decide) rfl (Nat.le_of_ble_eq_true rfl) rfl ?_
  intro p e s m below meth c ls hx hb hr hml hown hts hlocks hname hB hl
  have hown : s.vm.findClass RX0 = some m.cls := hown
  obtain ⟨hP, hK⟩ := hB
  have hin : ∀ w ∈ wsX00, w ∈ wsX0_placeReached := fun w h => List.mem_cons_of_mem _ (List.mem_append_right _ h)
  refine lv_iload_n hx hb dX0_placeReached_0 rfl (lv_at hl 1 rfl) ?_
  refine lv_istore (lv' := [(4, .int (nI p1)), (0, .ref (q 0)), (1, .int (nI p1)), (2, .int (nI (32768 * gk + gt))), (3, .int (nI st))]) hx hb dX0_placeReached_1 hl (by decide) rfl (fun ls hl => ?_)
  refine lv_iconst (v := nI 0) hx hb dX0_placeReached_3 (by decide) ?_
  refine lv_istore (lv' := [(5, .int (nI 0)), (4, .int (nI p1)), (0, .ref (q 0)), (1, .int (nI p1)), (2, .int (nI (32768 * gk + gt))), (3, .int (nI st))]) hx hb dX0_placeReached_4 hl (by decide) rfl (fun ls hl => ?_)
  refine lv_iconst (v := nI 0) hx hb dX0_placeReached_6 (by decide) ?_
  refine lv_istore (lv' := [(6, .int (nI 0)), (5, .int (nI 0)), (4, .int (nI p1)), (0, .ref (q 0)), (1, .int (nI p1)), (2, .int (nI (32768 * gk + gt))), (3, .int (nI st))]) hx hb dX0_placeReached_7 hl (by decide) rfl (fun ls hl => ?_)
  refine W.loop (fun i ls => ∃ (pl1 : Nat) (tki : Int32) (tk : Nat → Bool), (pl1 < 8) ∧ (tkR tki tk) ∧ (pl (toldC sh ct ds K gk gt) Ld (arrC NK NT gk gt) (st - i) pl1 tk = pl (toldC sh ct ds K gk gt) Ld (arrC NK NT gk gt) st p1 tk0) ∧ lv_has ls 8 [(0, .ref (q 0)), (1, .int (nI p1)), (2, .int (nI (32768 * gk + gt))), (3, .int (nI st)), (4, .int (nI pl1)), (5, .int tki), (6, .int (nI i))]) (st) (0) (by omega) ⟨p1, nI 0, tk0, hp, tkR_0, rfl, lv_sub hl [3, 4, 5, 6, 2, 1, 0] rfl⟩ ?_
  intro i ls hi_9 hI_9 ih_9
  obtain ⟨pl1, tki, tk, hf0_9, hf1_9, hf2_9, hl⟩ := hI_9
  refine lv_iload hx hb dX0_placeReached_9 (lv_at hl 6 rfl) ?_
  refine lv_iload_n hx hb dX0_placeReached_11 rfl (lv_at hl 3 rfl) ?_
  refine n_icmp_ge (tgt := 70) hx hb dX0_placeReached_12 (by decide) (by omega) (by omega) (fun c_12 => ?_) (fun c_12 => ?_)
  · refine lv_iload hx hb dX0_placeReached_70 (lv_at hl 4 rfl) ?_
    exact k_iret hx hb hr hlocks dX0_placeReached_72 (by rw [← hf2_9, show st - i = 0 from by omega]; rfl)
  · have hn1 := hN pl1 hf0_9
    refine lv_aload_n hx hb dX0_placeReached_15 rfl (lv_at hl 0 rfl) ?_
    refine va_get (D := D) (ci := 0) (v := .ref (q 4)) (C := RX0) (T := TX0) (N := 10) hx hb hts hin hown hK hP 0 rfl rfl 3 (by decide) (hts (.fieldLink RX0 19 "SignRail" "names" "[I") (by decide +kernel)) (fun _ h9 => h9) rfl dX0_placeReached_16 ?_
    refine lv_iload hx hb dX0_placeReached_19 (lv_at hl 4 rfl) ?_
    refine n_iald hx hb hK hP 4 0 rfl rfl (k := pl1) (by omega) (Nat.le_of_ble_eq_true rfl) dX0_placeReached_21 ?_
    refine lv_as (y := nI (32768 * (NK pl1) + (NT pl1))) (hn1.2.2) ?_
    refine lv_iload_n hx hb dX0_placeReached_22 rfl (lv_at hl 2 rfl) ?_
    refine n_icmp_eq (tgt := 70) hx hb dX0_placeReached_23 (by decide) (by omega) (by omega) (fun c_23 => ?_) (fun c_23 => ?_)
    · refine lv_iload hx hb dX0_placeReached_70 (lv_at hl 4 rfl) ?_
      exact k_iret hx hb hr hlocks dX0_placeReached_72 (by rw [← hf2_9, show st - i = (st - i - 1) + 1 from by omega, pl_a (decide_eq_true ⟨by omega, by omega⟩)])
    · refine lv_aload_n hx hb dX0_placeReached_26 rfl (lv_at hl 0 rfl) ?_
      refine lv_iload hx hb dX0_placeReached_27 (lv_at hl 4 rfl) ?_
      refine lv_iload_n hx hb dX0_placeReached_29 rfl (lv_at hl 2 rfl) ?_
      refine lv_iload hx hb dX0_placeReached_30 (lv_at hl 5 rfl) ?_
      refine k_callVi (As := [.int (nI pl1), .int (nI (32768 * gk + gt)), .int tki]) (rest := []) ⟨hx, hb, hml, hown, hts⟩ (c_X0_nextWay l D cI q sh sp ld nm tx ds ct co kg ks pl1 hf0_9 gt gk hgt hgk tki tk hf1_9 T K Ld hS hL hsh) (cwV 3 hts gX0_placeReached_X0_nextWay rfl rfl rfl (by decide +kernel) ⟨Nat.le_of_ble_eq_true rfl, Nat.le_of_ble_eq_true rfl⟩) k_B_bl (k_B_of hP hK) (va_recv hK hP (ci := 0) (q0 := 0) rfl rfl) rfl hl.1 rfl (Nat.le_of_ble_eq_true rfl) dX0_placeReached_32 ⟨Nat.zero_le _, Nat.zero_le _⟩ ?_
      refine lv_istore (lv' := [(7, .int (wv pl1 (nx (toldC sh ct ds K gk gt) Ld tk pl1))), (0, .ref (q 0)), (1, .int (nI p1)), (2, .int (nI (32768 * gk + gt))), (3, .int (nI st)), (4, .int (nI pl1)), (5, .int tki), (6, .int (nI i))]) hx hb dX0_placeReached_35 hl (by decide) rfl (fun ls hl => ?_)
      refine lv_iload hx hb dX0_placeReached_37 (lv_at hl 0 rfl) ?_
      refine lv_iconst (v := (-1)) hx hb dX0_placeReached_39 (by decide) ?_
      refine lv_icmp_ne (tgt := 46) hx hb dX0_placeReached_40 (by decide) (fun c_40 => ?_) (fun c_40 => ?_)
      · have hnx : nx (toldC sh ct ds K gk gt) Ld tk pl1 < 4 ∧ Ld (4 * pl1 + nx (toldC sh ct ds K gk gt) Ld tk pl1) ≠ 8 := nx_lt.resolve_left (fun q => c_40 (by rw [q]; rfl))
        rw [wv_lt hnx.1] at hl
        generalize hne : nx (toldC sh ct ds K gk gt) Ld tk pl1 = ne at hl hnx
        have hle := (hL (4 * pl1 + ne) (by omega)).1
        refine lv_iload hx hb dX0_placeReached_46 (lv_at hl 6 rfl) ?_
        refine lv_iconst (v := nI 1) hx hb dX0_placeReached_48 (by decide) ?_
        refine lv_iload hx hb dX0_placeReached_49 (lv_at hl 0 rfl) ?_
        refine lv_ishl hx hb dX0_placeReached_51 ?_
        refine lv_ior hx hb dX0_placeReached_52 ?_
        refine lv_istore (lv' := [(5, .int (tki ||| ((nI 1) <<< ((nI (4 * pl1 + ne)) &&& 31)))), (7, .int (nI (4 * pl1 + ne))), (0, .ref (q 0)), (1, .int (nI p1)), (2, .int (nI (32768 * gk + gt))), (3, .int (nI st)), (4, .int (nI pl1)), (6, .int (nI i))]) hx hb dX0_placeReached_53 hl (by decide) rfl (fun ls hl => ?_)
        refine lv_aload_n hx hb dX0_placeReached_55 rfl (lv_at hl 2 rfl) ?_
        refine va_get (D := D) (ci := 0) (v := .ref (q 3)) (C := RX0) (T := TX0) (N := 10) hx hb hts hin hown hK hP 0 rfl rfl 2 (by decide) (hts (.fieldLink RX0 16 "SignRail" "leads" "[I") (by decide +kernel)) (fun _ h9 => h9) rfl dX0_placeReached_56 ?_
        refine lv_iload hx hb dX0_placeReached_59 (lv_at hl 1 rfl) ?_
        refine n_iald hx hb hK hP 3 0 rfl rfl (k := (4 * pl1 + ne)) (by omega) (Nat.le_of_ble_eq_true rfl) dX0_placeReached_61 ?_
        refine lv_as (y := nI (Ld (4 * pl1 + ne))) (((hL _ (by omega)).2).trans (ix_lt (by have := hnx.2; omega))) ?_
        refine lv_istore (lv' := [(4, .int (nI (Ld (4 * pl1 + ne)))), (5, .int (tki ||| ((nI 1) <<< ((nI (4 * pl1 + ne)) &&& 31)))), (7, .int (nI (4 * pl1 + ne))), (0, .ref (q 0)), (1, .int (nI p1)), (2, .int (nI (32768 * gk + gt))), (3, .int (nI st)), (6, .int (nI i))]) hx hb dX0_placeReached_62 hl (by decide) rfl (fun ls hl => ?_)
        refine lv_iinc (v := nI (i + 1)) (lv' := [(6, .int (nI (i + 1))), (4, .int (nI (Ld (4 * pl1 + ne)))), (5, .int (tki ||| ((nI 1) <<< ((nI (4 * pl1 + ne)) &&& 31)))), (7, .int (nI (4 * pl1 + ne))), (0, .ref (q 0)), (1, .int (nI p1)), (2, .int (nI (32768 * gk + gt))), (3, .int (nI st))]) hx hb dX0_placeReached_64 hl (k := 7) rfl (nI_inc _) (by decide) rfl (fun ls hl => ?_)
        refine lv_goto (tgt := 9) hx hb dX0_placeReached_67 (by decide) ?_
        exact ih_9 _ (by omega) ⟨Ld (4 * pl1 + ne), tki ||| ((nI 1) <<< ((nI (4 * pl1 + ne)) &&& 31)), tkA tk (4 * pl1 + ne), by have := hnx.2; omega, tkR_add hf1_9 (by omega), by rw [← hf2_9, show st - i = (st - (i + 1)) + 1 from by omega, pl_s (decide_eq_false (fun q => c_23 (by rw [q.1, q.2]))) hne hnx.1], lv_sub hl [4, 5, 6, 7, 1, 2, 0] rfl⟩
      · refine lv_iload hx hb dX0_placeReached_43 (lv_at hl 5 rfl) ?_
        exact k_iret hx hb hr hlocks dX0_placeReached_45 (by rw [← hf2_9, show st - i = (st - i - 1) + 1 from by omega, pl_l ((wv_m1 hf0_9 (by rcases nx_lt (told := toldC sh ct ds K gk gt) (Ld := Ld) (tk := tk) (p := pl1) with q | q <;> omega)).mp c_40)])
end
section
/-! own rows of this claim: what the law asks of the class's pure functions -/
def lnK (a b c d : Nat) : Bool := decide (dist a c = 0 ∨ dist b d = 0 ∨ dist a c = dist b d)
def stk (bk s c : Int32) : Int32 := if bk = 0 then s &&& (c ^^^ (-1)) else s ||| c
abbrev lcN (a b c d : Nat) : Int32 := lcF (nI a) (nI b) (dr a c) (dr b d) (lnN a b c d)
theorem S25_of {x : Int32} (h : x.toBitVec.toNat < 33554432) : S25 x := by
  obtain ⟨n, hn, rfl⟩ := wb_of32 x
  rw [pk_tn hn] at h
  exact ⟨n, by omega, rfl⟩
theorem lc_25 : ∀ a, a < 5 → ∀ b, b < 5 → ∀ c, c < 5 → ∀ d, d < 5 → lnK a b c d = true → (lcF (nI a) (nI b) (dr a c) (dr b d) (lnN a b c d)).toBitVec.toNat < 33554432 := by decide +kernel
theorem S25_lcN {a b c d : Nat} (ha : a < 5) (hb : b < 5) (hc : c < 5) (hd : d < 5) (h : lnK a b c d = true) : S25 (lcN a b c d) := S25_of (lc_25 a ha b hb c hc d hd h)
theorem S25_stk {bk s c : Int32} (h : S25 s) (hc : S25 c) : S25 (stk bk s c) := by
  unfold stk
  split
  · exact S25_and _ h
  · exact S25_or h hc
theorem lc_5 : ∀ a, a < 5 → ∀ b, b < 5 → ∀ c, c < 5 → ∀ d, d < 5 → lnK a b c d = true → pcn (lcF (nI a) (nI b) (dr a c) (dr b d) (lnN a b c d)).toBitVec.toNat 25 ≤ 5 := by decide +kernel
theorem bt_stk (bk x c : Int32) {i : Nat} (hi : i < 32) (h : bt (x ^^^ stk bk x c) i = true) : bt c i = true := by
  rw [b_xor] at h
  unfold stk at h
  split at h
  · rw [b_and, b_xor, b_m1 i hi] at h
    revert h
    cases bt x i <;> cases bt c i <;> simp
  · rw [b_or] at h
    revert h
    cases bt x i <;> cases bt c i <;> simp
theorem stk_stk (bk s c : Int32) : stk bk (stk bk s c) c = stk bk s c := by
  refine b_ext fun i hi => ?_
  unfold stk
  split
  · simp only [b_and, b_xor, b_m1 i hi]
    cases bt s i <;> cases bt c i <;> rfl
  · simp only [b_or]
    cases bt s i <;> cases bt c i <;> rfl
theorem df_self (x : Int32) : df x x = nI 0 := by
  have h : x ^^^ x = 0 := b_ext fun i _ => by rw [b_xor, b_0, Bool.xor_self]
  unfold df
  rw [h]
  decide +kernel
theorem df_comm (x y : Int32) : df x y = df y x := by
  have h : x ^^^ y = y ^^^ x := b_ext fun i _ => by rw [b_xor, b_xor, Bool.xor_comm]
  unfold df
  rw [h]
theorem pcn_le (n : Nat) : ∀ k, pcn n k ≤ k
  | 0 => Nat.le_refl _
  | k + 1 => by
    have h := pcn_le n k
    have h2 : n / 2 ^ k % 2 < 2 := Nat.mod_lt _ (by decide)
    show pcn n k + n / 2 ^ k % 2 ≤ k + 1
    omega
theorem pcn_mono {n m : Nat} : ∀ k, (∀ i, i < k → n / 2 ^ i % 2 ≤ m / 2 ^ i % 2) → pcn n k ≤ pcn m k
  | 0, _ => Nat.le_refl _
  | k + 1, h => by
    have h1 := pcn_mono k (fun i hi => h i (by omega))
    have h2 := h k (by omega)
    show pcn n k + n / 2 ^ k % 2 ≤ pcn m k + m / 2 ^ k % 2
    omega
theorem bt_nI {n : Nat} (hn : n < 2 ^ 32) (i : Nat) : bt (nI n) i = n.testBit i := by
  unfold bt
  rw [show (nI n).toBitVec = BitVec.ofNat 32 n from rfl, BitVec.getLsbD_ofNat]
  by_cases h : i < 32
  · simp [h]
  · rw [Nat.testBit_lt_two_pow (Nat.lt_of_lt_of_le hn (Nat.pow_le_pow_right (by decide) (by omega)))]
    simp
theorem df_rg {x y : Int32} (hx : S25 x) (hy : S25 y) : ∃ k, k ≤ 25 ∧ df x y = nI k := by
  obtain ⟨n, hn, h⟩ := S25_xor hx hy
  unfold df
  rw [h, bsum_nI (by omega) 25 (Nat.le_refl _)]
  exact ⟨_, pcn_le n 25, rfl⟩
theorem df_stk {a b c d : Nat} (ha : a < 5) (hb : b < 5) (hc : c < 5) (hd : d < 5) (h : lnK a b c d = true) {x bk : Int32} (hx : S25 x) : ∃ k, k ≤ 5 ∧ df x (stk bk x (lcN a b c d)) = nI k := by
  have h5 := lc_5 a ha b hb c hc d hd h
  have hs := S25_lcN ha hb hc hd h
  change pcn (lcN a b c d).toBitVec.toNat 25 ≤ 5 at h5
  generalize lcN a b c d = z at h5 hs
  obtain ⟨m, hm, rfl⟩ := hs
  rw [pk_tn (show m < 2 ^ 32 by omega)] at h5
  obtain ⟨n, hn, hz⟩ := S25_xor hx (S25_stk (bk := bk) hx ⟨m, hm, rfl⟩)
  unfold df
  rw [hz, bsum_nI (by omega) 25 (Nat.le_refl _)]
  refine ⟨_, Nat.le_trans (pcn_mono 25 fun i hi => ?_) h5, rfl⟩
  have h6 : n.testBit i = true → m.testBit i = true := fun q => by
    rw [← bt_nI (by omega)] at q ⊢
    rw [← hz] at q
    exact bt_stk bk x (nI m) (by omega) q
  rw [← Nat.toNat_testBit, ← Nat.toNat_testBit]
  cases hA : n.testBit i with
  | false => exact Nat.zero_le _
  | true => rw [h6 hA]; exact Nat.le_refl _
theorem wd_rg (h : Nat → Bool) : ∃ k, 1 ≤ k ∧ k ≤ 5 ∧ wdF h = nI k := by
  have key : ∀ a b c d e : Bool, ∃ k, 1 ≤ k ∧ k ≤ 5 ∧ wdF (fun i => if i = 0 then a else if i = 1 then b else if i = 2 then c else if i = 3 then d else e) = nI k := by
    intro a b c d e
    cases a <;> cases b <;> cases c <;> cases d <;> cases e <;> first | exact ⟨1, by decide, by decide, by decide⟩ | exact ⟨2, by decide, by decide, by decide⟩ | exact ⟨3, by decide, by decide, by decide⟩ | exact ⟨4, by decide, by decide, by decide⟩ | exact ⟨5, by decide, by decide, by decide⟩
  obtain ⟨k, h1, h2, h3⟩ := key (h 0) (h 1) (h 2) (h 3) (h 4)
  refine ⟨k, h1, h2, h3 ▸ ?_⟩
  have e : ∀ f : Nat → Bool, (∀ j, j < 5 → h j = f j) → ∀ j, j ≤ 5 → wfF h j = wfF f j := by
    intro f hf j
    induction j with
    | zero => intro _; rfl
    | succ j ih =>
      intro hj
      rw [wfF, wfF, ih (by omega), hf j (by omega)]
  unfold wdF
  rw [e (fun i => if i = 0 then h 0 else if i = 1 then h 1 else if i = 2 then h 2 else if i = 3 then h 3 else h 4) (fun j hj => by rcases (show j = 0 ∨ j = 1 ∨ j = 2 ∨ j = 3 ∨ j = 4 by omega) with rfl | rfl | rfl | rfl | rfl <;> rfl) 5 (Nat.le_refl _)]
def engF (sh ct : Nat → Int32) (w t : Nat) : Nat → Nat → Int32
  | 0 => ct
  | j + 1 => upd (engF sh ct w t j) (w * 5 + j) (sh (dg t j))
theorem eng_in {sh ct : Nat → Int32} {w t : Nat} : ∀ {k j : Nat}, j < k → engF sh ct w t k (w * 5 + j) = sh (dg t j)
  | k + 1, j, h => by
    show upd (engF sh ct w t k) (w * 5 + k) (sh (dg t k)) (w * 5 + j) = sh (dg t j)
    by_cases e : j = k
    · subst e; exact pk_us
    · rw [pk_un (by omega)]
      exact eng_in (by omega)
theorem eng_out {sh ct : Nat → Int32} {w t x : Nat} : ∀ {k : Nat}, (∀ j, j < k → x ≠ w * 5 + j) → engF sh ct w t k x = ct x
  | 0, _ => rfl
  | k + 1, h => by
    show upd (engF sh ct w t k) (w * 5 + k) (sh (dg t k)) x = ct x
    rw [pk_un (h k (by omega))]
    exact eng_out (fun j hj => h j (by omega))
theorem any_no {p : Nat → Bool} {n : Nat} (h : ∀ i, i < n → p i = false) : anyB p n = false := by
  refine ts_nt fun q => ?_
  obtain ⟨i, h1, h2⟩ := anyB_iff.mp q
  rw [h i h1] at h2
  cases h2
theorem old_eng {sh ct : Nat → Int32} {w t k : Nat} : anyB (oldC sh (engF sh ct w t k) w t) k = false := any_no fun j hj => decide_eq_false (fun q => q (eng_in hj))
theorem sa_pl {told : Nat → Bool} {Ld : Nat → Nat} {arr : Nat → Bool} : ∀ (f n p : Nat) (tk : Nat → Bool), sa told Ld arr f n p tk = -1 ∨ ∃ j, j < f ∧ sa told Ld arr f n p tk = nI (n + j) ∧ ∀ m, j ≤ m → pl told Ld arr m p tk = pl told Ld arr j p tk
  | 0, _, _, _ => Or.inl rfl
  | f + 1, n, p, tk => by
    cases ha : arr p with
    | true =>
      refine Or.inr ⟨0, by omega, sa_a ha, fun m _ => ?_⟩
      cases m with
      | zero => rfl
      | succ m => exact pl_a ha
    | false =>
      by_cases h4 : nx told Ld tk p = 4
      · exact Or.inl (sa_l ha h4)
      · have he : nx told Ld tk p < 4 := (nx_lt.resolve_left h4).1
        rcases sa_pl f (n + 1) (Ld (4 * p + nx told Ld tk p)) (tkA tk (4 * p + nx told Ld tk p)) with h | ⟨j, h1, h2, h3⟩
        · exact Or.inl ((sa_s ha rfl he).trans h)
        · refine Or.inr ⟨j + 1, by omega, (sa_s ha rfl he).trans (h2.trans (congrArg nI (by omega))), fun m hm => ?_⟩
          obtain ⟨m, rfl⟩ : ∃ m', m = m' + 1 := ⟨m - 1, by omega⟩
          rw [pl_s ha rfl he, pl_s ha rfl he]
          exact h3 m (by omega)
theorem pl_lt8 {told : Nat → Bool} {Ld : Nat → Nat} {arr : Nat → Bool} (hL : ∀ w, w < 32 → Ld w ≤ 8) : ∀ (f p : Nat) (tk : Nat → Bool), p < 8 → pl told Ld arr f p tk < 8
  | 0, _, _, h => h
  | f + 1, p, tk, h => by
    cases ha : arr p with
    | true => rw [pl_a ha]; exact h
    | false =>
      by_cases h4 : nx told Ld tk p = 4
      · rw [pl_l h4]; exact h
      · have he := nx_lt.resolve_left h4
        rw [pl_s ha rfl he.1]
        refine pl_lt8 hL f _ _ ?_
        have h5 := hL (4 * p + nx told Ld tk p) (by omega)
        have h6 := he.2
        omega
def kpOK (sf : Nat → Nat → Nat → Int32) (kg : Int32) (ks : Nat → Int32) : Prop := ∀ gk gt : Nat, 1 ≤ gk → gk ≤ 5 → gt < 8 ^ gk → kg = nI (32768 * gk + gt) → ∀ p, p < 8 → ks p = -2 ∨ ks p = sf gk gt p
theorem kp_0 (sf : Nat → Nat → Nat → Int32) (ks : Nat → Int32) : kpOK sf (nI 0) ks := by
  intro gk gt h1 h2 h3 h4
  have h5 := p8_le h2
  have h6 := nI_inj (by omega) (by omega) h4
  omega
theorem kp_inj {k t gk gt : Nat} (hk : k ≤ 5) (ht : t < 8 ^ k) (h2 : gk ≤ 5) (h3 : gt < 8 ^ gk) (h : nI (32768 * k + t) = nI (32768 * gk + gt)) : gk = k ∧ gt = t := by
  have h5 := p8_le h2
  have h6 := p8_le hk
  have h7 := nI_inj (by omega) (by omega) h
  omega
theorem kp_upd {sf : Nat → Nat → Nat → Int32} {kg : Int32} {ks : Nat → Int32} {k t p : Nat} (hk : k ≤ 5) (ht : t < 8 ^ k) (hg : kg = nI (32768 * k + t)) (h : ∀ v, v < 8 → v ≠ p → ks v = -2 ∨ ks v = sf k t v) : kpOK sf kg (upd ks p (sf k t p)) := by
  intro gk gt h1 h2 h3 h4 v hv
  rw [hg] at h4
  obtain ⟨rfl, rfl⟩ := kp_inj hk ht h2 h3 h4
  by_cases e : v = p
  · subst e
    exact Or.inr pk_us
  · rw [pk_un e]
    exact h v hv e
def lowN (v : Int32) (n : Nat) : Nat := v.toBitVec.toNat % 2147483648 % n
theorem lowN_lt (v : Int32) {n : Nat} (h : 0 < n) : lowN v n < n := Nat.mod_lt _ h
theorem low_and (v : Int32) : v &&& 2147483647 = nI (v.toBitVec.toNat % 2147483648) := by
  obtain ⟨n, hn, rfl⟩ := wb_of32 v
  rw [pk_tn hn]
  exact fa_mask n 31
def cellF (L : Nat) (xs : Nat → Int32) (k : Nat) : Int32 := if k < L then xs k else (nI 7919 * nI (k + 3)) * nI (k + 11)
theorem pl_m1 {x : Int32} (h : x ≤ nI 30) : plF x ≠ -1 := by
  unfold plF
  rw [if_neg (le_nlt h)]
  split
  · split <;> decide
  · decide
section KCALL0
variable {p : Program} {l : Launch} {e : Env} {R : Room} {s : State} {m : MethodId} {args : Array Value} {below : List Frame} {meth : Method} {c : Code} {H : Heap} {locs : List Loc} {cells slots : Nat} {Q : State → Prop}
variable {y : MethodName} {bytes cc : ByteArray} {maxL nL n index pc : Nat} {ret : Option FieldType} {ws : List Cond} {rm : Room} {Ts : List Cond} {own C : String} {b : Addr} {As rest st0 : List Value} {ls : Array Slot} {B : State → Prop}
theorem k_callS0 (S : CallFix p m c cc nL s args Ts own) (hM : k_M l y ws rm As B none) (cw : CallB R s args own index y bytes maxL ret ws rm 0 0 n ∧ (Cond.static y).before args s = true)
    (hbl : k_bl B) (hB : ∀ U : State, U.heap = H → s.WarmedH U.vm → B U) (hn : As.length = n) (hsize : ls.size = nL) (hst : st0 = As.reverse ++ rest) (hW : (rest.map fun v => v.category).sum ≤ 8) (hdg : decode cc pc = .ok (.invokestatic index, 3)) (hf : cells ≤ R.cells ∧ slots ≤ R.slots)
    (kk : W p l e R s m args below meth c H locs cells slots Q (F0 m (pc + 3) ls rest)) : W p l e R s m args below meth c H locs cells slots Q (F0 m pc ls st0) := k_callS S hM cw hbl hB hn hsize hst hW hdg hf kk
theorem k_vret (hx : p.tables.exec = Jvm.exec) (hb : c.code = cc) (hr : meth.sig.returnType = none) (hlocks : meth.locks = false) (hdg : decode cc pc = .ok (.return_, 1)) : W p l e R s m args below meth c s.heap [] 0 0 (MQ below (k_Q none) args s 0 0 k_N) (F0 m pc ls []) := W.vret hx hb hr (fun t ht hW => ⟨rfl, ht⟩) (fun q hq => nomatch hq) hdg hlocks
theorem n_lcmpEq (hexec : p.tables.exec = Jvm.exec) (hb : c.code = cc) {x z : Int64} (h : x = z) (hdg : decode cc pc = .ok (.lcmp, 1)) (k : W p l e R s m args below meth c H locs cells slots Q (F0 m (pc + 1) ls (.int (nI 0) :: rest))) : W p l e R s m args below meth c H locs cells slots Q (F0 m pc ls (.long z :: .long x :: rest)) := by
  subst h
  intro T hT X
  obtain ⟨t, a, b⟩ := k T hT X
  refine ⟨t, ?_, b⟩
  jvm_step X.here [X.here.top, hexec, hb, hdg]
  exact a
end KCALL0
end
section
set_option maxHeartbeats 4000000 in
set_option maxRecDepth 100000 in
theorem c_X0_requireGlyph (l : Launch) (g : Nat) (hg : g < 8) : k_M l yX0_requireGlyph wsX0_requireGlyph ({ frames := 0, cells := 0, slots := 0, locals := 0 } : Room) [.int (nI g)] k_tt none := by
  refine k_head (cc := cX0_requireGlyph) (maxL := 1) (ret := none) [(0, .int (nI g))] (by decide) rfl (Nat.le_of_ble_eq_true rfl) rfl ?_
  intro p e s m below meth c ls hx hb hr hml hown hts hlocks hname hB hl
  have hown : s.vm.findClass RX0 = some m.cls := hown
  refine lv_iload_n hx hb dX0_requireGlyph_0 rfl (lv_at hl 0 rfl) ?_
  refine n_if_lt (tgt := 10) hx hb dX0_requireGlyph_1 (by decide) (by omega) ?_
  refine lv_iload_n hx hb dX0_requireGlyph_4 rfl (lv_at hl 0 rfl) ?_
  refine lv_bipush (v := nI 8) hx hb dX0_requireGlyph_5 (by decide) ?_
  refine n_icmp_lt (tgt := 20) hx hb dX0_requireGlyph_7 (by decide) (by omega) (by omega) (fun c_7 => ?_) (fun c_7 => ?_)
  · exact k_vret hx hb hr hlocks dX0_requireGlyph_20
  · exact absurd hg (by omega)
set_option maxHeartbeats 4000000 in
set_option maxRecDepth 100000 in
theorem c_X0_requirePlace (l : Launch) (g : Nat) (hg : g < 8) : k_M l yX0_requirePlace wsX0_requirePlace ({ frames := 0, cells := 0, slots := 0, locals := 0 } : Room) [.int (nI g)] k_tt none := by
  refine k_head (cc := cX0_requirePlace) (maxL := 1) (ret := none) [(0, .int (nI g))] (by decide) rfl (Nat.le_of_ble_eq_true rfl) rfl ?_
  intro p e s m below meth c ls hx hb hr hml hown hts hlocks hname hB hl
  have hown : s.vm.findClass RX0 = some m.cls := hown
  refine lv_iload_n hx hb dX0_requirePlace_0 rfl (lv_at hl 0 rfl) ?_
  refine n_if_lt (tgt := 10) hx hb dX0_requirePlace_1 (by decide) (by omega) ?_
  refine lv_iload_n hx hb dX0_requirePlace_4 rfl (lv_at hl 0 rfl) ?_
  refine lv_bipush (v := nI 8) hx hb dX0_requirePlace_5 (by decide) ?_
  refine n_icmp_lt (tgt := 20) hx hb dX0_requirePlace_7 (by decide) (by omega) (by omega) (fun c_7 => ?_) (fun c_7 => ?_)
  · exact k_vret hx hb hr hlocks dX0_requirePlace_20
  · exact absurd hg (by omega)
set_option maxHeartbeats 4000000 in
set_option maxRecDepth 100000 in
theorem c_X0_requireExit (l : Launch) (g x : Nat) (hg : g < 8) (hx4 : x < 4) : k_M l yX0_requireExit wsX0_requireExit ({ frames := 1, cells := 0, slots := 0, locals := 20 } : Room) [.int (nI g), .int (nI x)] k_tt none := by
  refine k_head (cc := cX0_requireExit) (maxL := 2) (ret := none) [(0, .int (nI g)), (1, .int (nI x))] (by decide) rfl (Nat.le_of_ble_eq_true rfl) rfl ?_
  intro p e s m below meth c ls hx hb hr hml hown hts hlocks hname hB hl
  have hown : s.vm.findClass RX0 = some m.cls := hown
  refine lv_iload_n hx hb dX0_requireExit_0 rfl (lv_at hl 0 rfl) ?_
  refine k_callS0 (As := [.int (nI g)]) (rest := []) ⟨hx, hb, hml, hown, hts⟩ (c_X0_requirePlace l g (by omega)) (va_cwS 1 hts gX0_requireExit_X0_requirePlace rfl rfl rfl (by decide +kernel) ⟨Nat.le_of_ble_eq_true rfl, Nat.le_of_ble_eq_true rfl⟩) k_bl_tt (fun _ _ _ => trivial) rfl hl.1 rfl (Nat.le_of_ble_eq_true rfl) dX0_requireExit_1 ⟨Nat.zero_le _, Nat.zero_le _⟩ ?_
  refine lv_iload_n hx hb dX0_requireExit_4 rfl (lv_at hl 1 rfl) ?_
  refine n_if_lt (tgt := 13) hx hb dX0_requireExit_5 (by decide) (by omega) ?_
  refine lv_iload_n hx hb dX0_requireExit_8 rfl (lv_at hl 1 rfl) ?_
  refine lv_iconst (v := nI 4) hx hb dX0_requireExit_9 (by decide) ?_
  refine n_icmp_lt (tgt := 23) hx hb dX0_requireExit_10 (by decide) (by omega) (by omega) (fun c_10 => ?_) (fun c_10 => ?_)
  · exact k_vret hx hb hr hlocks dX0_requireExit_23
  · exact absurd hx4 (by omega)
set_option maxHeartbeats 4000000 in
set_option maxRecDepth 100000 in
theorem c_X0_requireText (l : Launch) (t k : Nat) (hk1 : 1 ≤ k) (hk5 : k ≤ 5) (htk : t < 8 ^ k) : k_M l yX0_requireText wsX0_requireText ({ frames := 0, cells := 0, slots := 0, locals := 0 } : Room) [.int (nI t), .int (nI k)] k_tt none := by
  refine k_head (cc := cX0_requireText) (maxL := 2) (ret := none) [(0, .int (nI t)), (1, .int (nI k))] (by decide) rfl (Nat.le_of_ble_eq_true rfl) rfl ?_
  intro p e s m below meth c ls hx hb hr hml hown hts hlocks hname hB hl
  have hown : s.vm.findClass RX0 = some m.cls := hown
  have hp8 := p8_le hk5
  refine lv_iload_n hx hb dX0_requireText_0 rfl (lv_at hl 1 rfl) ?_
  refine lv_iconst (v := nI 1) hx hb dX0_requireText_1 (by decide) ?_
  refine n_icmp_lt (tgt := 10) hx hb dX0_requireText_2 (by decide) (by omega) (by omega) (fun c_2 => ?_) (fun c_2 => ?_)
  · exact absurd hk1 (by omega)
  · refine lv_iload_n hx hb dX0_requireText_5 rfl (lv_at hl 1 rfl) ?_
    refine lv_iconst (v := nI 5) hx hb dX0_requireText_6 (by decide) ?_
    refine n_icmp_le (tgt := 20) hx hb dX0_requireText_7 (by decide) (by omega) (by omega) (fun c_7 => ?_) (fun c_7 => ?_)
    · refine lv_iload_n hx hb dX0_requireText_20 rfl (lv_at hl 0 rfl) ?_
      refine n_if_lt (tgt := 33) hx hb dX0_requireText_21 (by decide) (by omega) ?_
      refine lv_iload_n hx hb dX0_requireText_24 rfl (lv_at hl 0 rfl) ?_
      refine lv_iconst (v := nI 1) hx hb dX0_requireText_25 (by decide) ?_
      refine lv_iconst (v := nI 3) hx hb dX0_requireText_26 (by decide) ?_
      refine lv_iload_n hx hb dX0_requireText_27 rfl (lv_at hl 1 rfl) ?_
      refine lv_imul hx hb dX0_requireText_28 ?_
      refine lv_as (y := nI (3 * k)) (pk_mul _ _) ?_
      refine lv_ishl hx hb dX0_requireText_29 ?_
      refine lv_as (y := nI (8 ^ k)) (shl8 k (by omega)) ?_
      refine n_icmp_lt (tgt := 43) hx hb dX0_requireText_30 (by decide) (by omega) (by omega) (fun c_30 => ?_) (fun c_30 => ?_)
      · exact k_vret hx hb hr hlocks dX0_requireText_43
      · exact absurd htk (by omega)
    · exact absurd hk5 (by omega)
set_option maxHeartbeats 4000000 in
set_option maxRecDepth 100000 in
theorem c_X0_requireLine (l : Launch) (a b c0 d0 : Nat) (ha : a < 5) (hb5 : b < 5) (hc : c0 < 5) (hd : d0 < 5) (hln : lnK a b c0 d0 = true) : k_M l yX0_requireLine wsX0_requireLine ({ frames := 1, cells := 0, slots := 0, locals := 23 } : Room) [.int (nI a), .int (nI b), .int (nI c0), .int (nI d0)] k_tt none := by
  refine k_head (cc := cX0_requireLine) (maxL := 6) (ret := none) [(0, .int (nI a)), (1, .int (nI b)), (2, .int (nI c0)), (3, .int (nI d0))] (by decide) rfl (Nat.le_of_ble_eq_true rfl) rfl ?_
  intro p e s m below meth c ls hx hb hr hml hown hts hlocks hname hB hl
  have hown : s.vm.findClass RX0 = some m.cls := hown
  have hda := dist_lt a ha c0 hc
  have hdb := dist_lt b hb5 d0 hd
  have hor : dist a c0 = 0 ∨ dist b d0 = 0 ∨ dist a c0 = dist b d0 := of_decide_eq_true hln
  refine lv_iload_n hx hb dX0_requireLine_0 rfl (lv_at hl 0 rfl) ?_
  refine lv_iload_n hx hb dX0_requireLine_1 rfl (lv_at hl 1 rfl) ?_
  refine k_callSi (As := [.int (nI a), .int (nI b)]) (rest := []) ⟨hx, hb, hml, hown, hts⟩ (c_X0_isCell l (nI a) (nI b)) (va_cwS 2 hts gX0_requireLine_X0_isCell rfl rfl rfl (by decide +kernel) ⟨Nat.le_of_ble_eq_true rfl, Nat.le_of_ble_eq_true rfl⟩) k_bl_tt (fun _ _ _ => trivial) rfl hl.1 rfl (Nat.le_of_ble_eq_true rfl) dX0_requireLine_2 ⟨Nat.zero_le _, Nat.zero_le _⟩ ?_
  refine lv_as (y := nI 1) (by rw [inB_nI (by omega) (by decide), inB_nI (by omega) (by decide)]; rfl) ?_
  refine n_if_eq (tgt := 16) hx hb dX0_requireLine_5 (by decide) (by decide) (fun c_5 => absurd c_5 (by decide)) (fun _ => ?_)
  refine lv_iload_n hx hb dX0_requireLine_8 rfl (lv_at hl 2 rfl) ?_
  refine lv_iload_n hx hb dX0_requireLine_9 rfl (lv_at hl 3 rfl) ?_
  refine k_callSi (As := [.int (nI c0), .int (nI d0)]) (rest := []) ⟨hx, hb, hml, hown, hts⟩ (c_X0_isCell l (nI c0) (nI d0)) (va_cwS 2 hts gX0_requireLine_X0_isCell rfl rfl rfl (by decide +kernel) ⟨Nat.le_of_ble_eq_true rfl, Nat.le_of_ble_eq_true rfl⟩) k_bl_tt (fun _ _ _ => trivial) rfl hl.1 rfl (Nat.le_of_ble_eq_true rfl) dX0_requireLine_10 ⟨Nat.zero_le _, Nat.zero_le _⟩ ?_
  refine lv_as (y := nI 1) (by rw [inB_nI (by omega) (by decide), inB_nI (by omega) (by decide)]; rfl) ?_
  refine n_if_ne (tgt := 26) hx hb dX0_requireLine_13 (by decide) (by decide) (fun _ => ?_) (fun c_13 => absurd c_13 (by decide))
  refine lv_iload_n hx hb dX0_requireLine_26 rfl (lv_at hl 2 rfl) ?_
  refine lv_iload_n hx hb dX0_requireLine_27 rfl (lv_at hl 0 rfl) ?_
  refine lv_isub hx hb dX0_requireLine_28 ?_
  refine va_mabs (index := 154) hx hb (by rw [hml]; exact hl.1.symm) hown (hts (.methodLink RX0 154 Lib.Math.abs.name) (by decide +kernel)) (hts (.static Lib.Math.abs.name) (by decide +kernel)) (hts (.initialized "java/lang/Math") (by decide +kernel)) (hts (.code Lib.Math.abs.name Lib.Math.abs.code 1 (some .int)) (by decide +kernel)) (Nat.le_of_ble_eq_true rfl) (Nat.le_of_ble_eq_true rfl) (Nat.le_of_ble_eq_true rfl) (Nat.le_of_ble_eq_true rfl) dX0_requireLine_29 ?_
  refine lv_as (y := nI (dist a c0)) (absd a ha c0 hc) ?_
  refine lv_istore (lv' := [(4, .int (nI (dist a c0))), (0, .int (nI a)), (1, .int (nI b)), (2, .int (nI c0)), (3, .int (nI d0))]) hx hb dX0_requireLine_32 hl (by decide) rfl (fun ls hl => ?_)
  refine lv_iload_n hx hb dX0_requireLine_34 rfl (lv_at hl 4 rfl) ?_
  refine lv_iload_n hx hb dX0_requireLine_35 rfl (lv_at hl 2 rfl) ?_
  refine lv_isub hx hb dX0_requireLine_36 ?_
  refine va_mabs (index := 154) hx hb (by rw [hml]; exact hl.1.symm) hown (hts (.methodLink RX0 154 Lib.Math.abs.name) (by decide +kernel)) (hts (.static Lib.Math.abs.name) (by decide +kernel)) (hts (.initialized "java/lang/Math") (by decide +kernel)) (hts (.code Lib.Math.abs.name Lib.Math.abs.code 1 (some .int)) (by decide +kernel)) (Nat.le_of_ble_eq_true rfl) (Nat.le_of_ble_eq_true rfl) (Nat.le_of_ble_eq_true rfl) (Nat.le_of_ble_eq_true rfl) dX0_requireLine_37 ?_
  refine lv_as (y := nI (dist b d0)) (absd b hb5 d0 hd) ?_
  refine lv_istore (lv' := [(5, .int (nI (dist b d0))), (4, .int (nI (dist a c0))), (0, .int (nI a)), (1, .int (nI b)), (2, .int (nI c0)), (3, .int (nI d0))]) hx hb dX0_requireLine_40 hl (by decide) rfl (fun ls hl => ?_)
  refine lv_iload hx hb dX0_requireLine_42 (lv_at hl 1 rfl) ?_
  refine n_if_eq (tgt := 69) hx hb dX0_requireLine_44 (by decide) (by omega) (fun c_44 => ?_) (fun c_44 => ?_)
  · exact k_vret hx hb hr hlocks dX0_requireLine_69
  · refine lv_iload hx hb dX0_requireLine_47 (lv_at hl 0 rfl) ?_
    refine n_if_eq (tgt := 69) hx hb dX0_requireLine_49 (by decide) (by omega) (fun c_49 => ?_) (fun c_49 => ?_)
    · exact k_vret hx hb hr hlocks dX0_requireLine_69
    · refine lv_iload hx hb dX0_requireLine_52 (lv_at hl 1 rfl) ?_
      refine lv_iload hx hb dX0_requireLine_54 (lv_at hl 0 rfl) ?_
      refine n_icmp_eq (tgt := 69) hx hb dX0_requireLine_56 (by decide) (by omega) (by omega) (fun c_56 => ?_) (fun c_56 => ?_)
      · exact k_vret hx hb hr hlocks dX0_requireLine_69
      · exact absurd hor (by omega)
end
section
set_option maxHeartbeats 4000000 in
set_option maxRecDepth 100000 in
theorem c_X0_forgetWalks (l : Launch) (D : va_G) (cI : ClassId) (q : Nat → Nat) (sh sp ld nm tx ds ct : Nat → Int32) (co : Int64) (kg : Int32) (ks : Nat → Int32) (hDt : va_D (fun _ => True) (wx cI q sh sp ld nm tx ds ct co kg ks)) : Met l yX0_forgetWalks wsX0_forgetWalks ({ frames := 0, cells := 0, slots := 0, locals := 0 } : Room) (k_P [.ref (q 0)] (k_B D (wx cI q sh sp ld nm tx ds ct co kg ks) [(cI, .int)])) (k_WQ D (wx cI q sh sp ld nm tx ds ct co kg ks) (fun u : Unit => True) (fun u => wx cI q sh sp ld nm tx ds ct co (nI 0) ks) (fun u => none)) 0 0 (k_A (wx cI q sh sp ld nm tx ds ct co kg ks)) := by
  refine k_head (cc := cX0_forgetWalks) (maxL := 1) (ret := none) [(0, .ref (q 0))] (by decide) rfl (Nat.le_of_ble_eq_true rfl) rfl ?_
  intro p e s m below meth c ls hx hb hr hml hown hts hlocks hname hB hl
  have hown : s.vm.findClass RX0 = some m.cls := hown
  obtain ⟨hP, hK⟩ := hB
  have hin : ∀ w ∈ wsX00, w ∈ wsX0_forgetWalks := fun w h => List.mem_cons_of_mem _ (List.mem_append_right _ h)
  have hD := k_A_D hDt
  have hS : va_S (k_A (wx cI q sh sp ld nm tx ds ct co kg ks)) s.heap s.heap [] := va_S.rf
  refine lv_aload_n hx hb dX0_forgetWalks_0 rfl (lv_at hl 0 rfl) ?_
  refine lv_iconst (v := nI 0) hx hb dX0_forgetWalks_1 (by decide) ?_
  refine va_put (D := D) (ci := 0) (v := .int (nI 0)) (ty := .int) (C := RX0) (T := TX0) (N := 10) hx hb hts hin tyX0 tyX0_ok nmX0 hown hK hP hD hS 0 rfl rfl 8 (by decide) (hts (.fieldLink RX0 35 "SignRail" "keptGoal" "I") (by decide +kernel)) (fun _ h9 => h9) rfl (by decide +kernel) (rfl) (rfl) (Nat.le_of_ble_eq_true rfl) dX0_forgetWalks_2 (fun H locs hP hD hS => ?_)
  have hP : va_P D vwCl (wx cI q sh sp ld nm tx ds ct co (nI 0) ks) H := hP
  have hD : va_D _ (wx cI q sh sp ld nm tx ds ct co (nI 0) ks) := hD
  exact k_wvret (())  hx hb hr hlocks dX0_forgetWalks_5 (trivial) rfl hP hS (Nat.le_of_ble_eq_true rfl) (Nat.le_of_ble_eq_true rfl)
set_option maxHeartbeats 4000000 in
set_option maxRecDepth 100000 in
theorem c_X0_engrave (l : Launch) (D : va_G) (cI : ClassId) (q : Nat → Nat) (sh sp ld nm tx ds ct : Nat → Int32) (co : Int64) (kg : Int32) (ks : Nat → Int32) (w t k : Nat) (hw : w < 32) (ht : t < 32768) (hk : k ≤ 5) (htx : tx w = nI (32768 * k + t)) (pv : Int32) (hDt : va_D (fun _ => True) (wx cI q sh sp ld nm tx ds ct co kg ks)) : Met l yX0_engrave wsX0_engrave ({ frames := 1, cells := 0, slots := 0, locals := 21 } : Room) (k_P [.ref (q 0), .int (nI w), .int pv] (k_B D (wx cI q sh sp ld nm tx ds ct co kg ks) [(cI, .int)])) (k_WQ D (wx cI q sh sp ld nm tx ds ct co kg ks) (fun u : Unit => True) (fun u => wx cI q sh sp ld nm tx ds (engF sh ct w t k) (co + pv.toInt64) kg ks) (fun u => none)) 0 0 (k_A (wx cI q sh sp ld nm tx ds ct co kg ks)) := by
  refine k_head (cc := cX0_engrave) (maxL := 5) (ret := none) [(0, .ref (q 0)), (1, .int (nI w)), (2, .int pv)] (by decide) rfl (Nat.le_of_ble_eq_true rfl) rfl ?_
  intro p e s m below meth c ls hx hb hr hml hown hts hlocks hname hB hl
  have hown : s.vm.findClass RX0 = some m.cls := hown
  obtain ⟨hP, hK⟩ := hB
  have hin : ∀ w ∈ wsX00, w ∈ wsX0_engrave := fun w h => List.mem_cons_of_mem _ (List.mem_append_right _ h)
  have hD := k_A_D hDt
  have hS : va_S (k_A (wx cI q sh sp ld nm tx ds ct co kg ks)) s.heap s.heap [] := va_S.rf
  refine lv_aload_n hx hb dX0_engrave_0 rfl (lv_at hl 0 rfl) ?_
  refine va_get (D := D) (ci := 0) (v := .ref (q 5)) (C := RX0) (T := TX0) (N := 10) hx hb hts hin hown hK hP 0 rfl rfl 4 (by decide) (hts (.fieldLink RX0 22 "SignRail" "signTexts" "[I") (by decide +kernel)) (fun _ h9 => h9) rfl dX0_engrave_1 ?_
  refine lv_iload_n hx hb dX0_engrave_4 rfl (lv_at hl 1 rfl) ?_
  refine n_iald hx hb hK hP 5 0 rfl rfl (k := w) (by omega) (Nat.le_of_ble_eq_true rfl) dX0_engrave_5 ?_
  refine lv_as (y := nI (32768 * k + t)) (htx) ?_
  refine lv_istore_n (lv' := [(3, .int (nI (32768 * k + t))), (0, .ref (q 0)), (1, .int (nI w)), (2, .int pv)]) hx hb dX0_engrave_6 rfl hl (by decide) rfl (fun ls hl => ?_)
  refine lv_iconst (v := nI 0) hx hb dX0_engrave_7 (by decide) ?_
  refine lv_istore (lv' := [(4, .int (nI 0)), (3, .int (nI (32768 * k + t))), (0, .ref (q 0)), (1, .int (nI w)), (2, .int pv)]) hx hb dX0_engrave_8 hl (by decide) rfl (fun ls hl => ?_)
  refine W.loopH (fun i H locs ls => va_P D vwCl (wx cI q sh sp ld nm tx ds (engF sh ct w t i) co kg ks) H ∧ va_D (k_A (wx cI q sh sp ld nm tx ds ct co kg ks)) (wx cI q sh sp ld nm tx ds (engF sh ct w t i) co kg ks) ∧ va_S (k_A (wx cI q sh sp ld nm tx ds ct co kg ks)) s.heap H locs ∧ lv_has ls 5 [(0, .ref (q 0)), (1, .int (nI w)), (2, .int pv), (3, .int (nI (32768 * k + t))), (4, .int (nI i))]) (k) (0) (by omega) ⟨hP, hD, hS, lv_sub hl [2, 3, 4, 1, 0] rfl⟩ ?_
  intro i H locs ls hi_10 hI_10 ih_10
  obtain ⟨hP, hD, hS, hl⟩ := hI_10
  refine lv_iload hx hb dX0_engrave_10 (lv_at hl 4 rfl) ?_
  refine lv_iload_n hx hb dX0_engrave_12 rfl (lv_at hl 3 rfl) ?_
  refine k_callSi (As := [.int (nI (32768 * k + t))]) (rest := [.int (nI i)]) ⟨hx, hb, hml, hown, hts⟩ (c_X0_manyOf l t k (by omega) (by omega)) (va_cwS 1 hts gX0_engrave_X0_manyOf rfl rfl rfl (by decide +kernel) ⟨Nat.le_of_ble_eq_true rfl, Nat.le_of_ble_eq_true rfl⟩) k_bl_tt (fun _ _ _ => trivial) rfl hl.1 rfl (Nat.le_of_ble_eq_true rfl) dX0_engrave_13 ⟨Nat.zero_le _, Nat.zero_le _⟩ ?_
  refine n_icmp_ge (tgt := 47) hx hb dX0_engrave_16 (by decide) (by omega) (by omega) (fun c_16 => ?_) (fun c_16 => ?_)
  · have hik : i = k := by omega
    subst hik
    refine lv_aload_n hx hb dX0_engrave_47 rfl (lv_at hl 0 rfl) ?_
    refine lv_dup hx hb dX0_engrave_48 rfl ?_
    refine va_get (D := D) (ci := 0) (v := .long co) (C := RX0) (T := TX0) (N := 10) hx hb hts hin hown hK hP 0 rfl rfl 7 (by decide) (hts (.fieldLink RX0 31 "SignRail" "costSoFar" "J") (by decide +kernel)) (fun _ h9 => h9) rfl dX0_engrave_49 ?_
    refine lv_iload_n hx hb dX0_engrave_52 rfl (lv_at hl 2 rfl) ?_
    refine lv_i2l (v := pv.toInt64) hx hb dX0_engrave_53 rfl ?_
    refine lv_ladd hx hb dX0_engrave_54 ?_
    refine va_put (D := D) (ci := 0) (v := .long (co + pv.toInt64)) (ty := .long) (C := RX0) (T := TX0) (N := 10) hx hb hts hin tyX0 tyX0_ok nmX0 hown hK hP hD hS 0 rfl rfl 7 (by decide) (hts (.fieldLink RX0 31 "SignRail" "costSoFar" "J") (by decide +kernel)) (fun _ h9 => h9) rfl (by decide +kernel) (rfl) (rfl) (Nat.le_of_ble_eq_true rfl) dX0_engrave_55 (fun H locs hP hD hS => ?_)
    have hP : va_P D vwCl (wx cI q sh sp ld nm tx ds (engF sh ct w t i) (co + pv.toInt64) kg ks) H := hP
    have hD : va_D _ (wx cI q sh sp ld nm tx ds (engF sh ct w t i) (co + pv.toInt64) kg ks) := hD
    exact k_wvret (())  hx hb hr hlocks dX0_engrave_58 (trivial) rfl hP hS (Nat.le_of_ble_eq_true rfl) (Nat.le_of_ble_eq_true rfl)
  · refine lv_aload_n hx hb dX0_engrave_19 rfl (lv_at hl 0 rfl) ?_
    refine va_get (D := D) (ci := 0) (v := .ref (q 7)) (C := RX0) (T := TX0) (N := 10) hx hb hts hin hown hK hP 0 rfl rfl 6 (by decide) (hts (.fieldLink RX0 28 "SignRail" "signShapes" "[I") (by decide +kernel)) (fun _ h9 => h9) rfl dX0_engrave_20 ?_
    refine lv_iload_n hx hb dX0_engrave_23 rfl (lv_at hl 1 rfl) ?_
    refine lv_iconst (v := nI 5) hx hb dX0_engrave_24 (by decide) ?_
    refine lv_imul hx hb dX0_engrave_25 ?_
    refine lv_as (y := nI (w * 5)) (pk_mul _ _) ?_
    refine lv_iload hx hb dX0_engrave_26 (lv_at hl 4 rfl) ?_
    refine lv_iadd hx hb dX0_engrave_28 ?_
    refine lv_as (y := nI ((w * 5) + i)) (nI_add _ _) ?_
    refine lv_aload_n hx hb dX0_engrave_29 rfl (lv_at hl 0 rfl) ?_
    refine va_get (D := D) (ci := 0) (v := .ref (q 1)) (C := RX0) (T := TX0) (N := 10) hx hb hts hin hown hK hP 0 rfl rfl 0 (by decide) (hts (.fieldLink RX0 9 "SignRail" "shapes" "[I") (by decide +kernel)) (fun _ h9 => h9) rfl dX0_engrave_30 ?_
    refine lv_iload_n hx hb dX0_engrave_33 rfl (lv_at hl 3 rfl) ?_
    refine lv_iload hx hb dX0_engrave_34 (lv_at hl 4 rfl) ?_
    refine k_callSi (As := [.int (nI (32768 * k + t)), .int (nI i)]) (rest := [.ref (q 1), .int (nI ((w * 5) + i)), .ref (q 7)]) ⟨hx, hb, hml, hown, hts⟩ (c_X0_glyphAt l t k i (by omega) (by omega) (by omega)) (va_cwS 2 hts gX0_engrave_X0_glyphAt rfl rfl rfl (by decide +kernel) ⟨Nat.le_of_ble_eq_true rfl, Nat.le_of_ble_eq_true rfl⟩) k_bl_tt (fun _ _ _ => trivial) rfl hl.1 rfl (Nat.le_of_ble_eq_true rfl) dX0_engrave_36 ⟨Nat.zero_le _, Nat.zero_le _⟩ ?_
    refine n_iald hx hb hK hP 1 0 rfl rfl (k := (dg t i)) (dg_lt _ _) (Nat.le_of_ble_eq_true rfl) dX0_engrave_39 ?_
    refine n_iast hx hb hK hP hD hS 7 0 rfl rfl (k := ((w * 5) + i)) (by omega) (Nat.le_of_ble_eq_true rfl) dX0_engrave_40 (fun H locs hP hD hS => ?_)
    have hP : va_P D vwCl (wx cI q sh sp ld nm tx ds (upd (engF sh ct w t i) ((w * 5) + i) (sh (dg t i))) co kg ks) H := hP
    have hD : va_D _ (wx cI q sh sp ld nm tx ds (upd (engF sh ct w t i) ((w * 5) + i) (sh (dg t i))) co kg ks) := hD
    refine lv_iinc (v := nI (i + 1)) (lv' := [(4, .int (nI (i + 1))), (0, .ref (q 0)), (1, .int (nI w)), (2, .int pv), (3, .int (nI (32768 * k + t)))]) hx hb dX0_engrave_41 hl (k := 4) rfl (nI_inc _) (by decide) rfl (fun ls hl => ?_)
    refine lv_goto (tgt := 10) hx hb dX0_engrave_44 (by decide) ?_
    exact ih_10 _ _ _ (by omega) ⟨hP, hD, hS, lv_sub hl [1, 2, 3, 4, 0] rfl⟩
set_option maxHeartbeats 4000000 in
set_option maxRecDepth 100000 in
theorem c_fill (l : Launch) (D : va_G) (cA : ClassId) (a n : Nat) (f : Nat → Int32) (x : Int32) (hn : n < 2 ^ 31) : Met l yJ7_fill_53178 wsJ7_fill_53178 ({ frames := 0, cells := 0, slots := 0, locals := 0 } : Room) (k_P [.ref a, .int x] (k_B D [(a, .inl (cA, n, .inl f))] [(cA, .int)])) (k_WQ D [(a, .inl (cA, n, .inl f))] (fun _ : Unit => True) (fun _ => [(a, .inl (cA, n, .inl (fa_fill (fun _ => x) f n)))]) (fun _ => none)) 0 0 (k_A [(a, .inl (cA, n, .inl f))]) := by
  refine k_head (cc := cJ7_fill_53178) (maxL := 4) (ret := none) [(0, .ref a), (1, .int x)] (by decide) rfl (Nat.le_of_ble_eq_true rfl) rfl ?_
  intro p e s m below meth c ls hx hb hr hml hown hts hlocks hname hB hl
  obtain ⟨hP, hK⟩ := hB
  have hD : va_D (k_A [(a, .inl (cA, n, .inl f))]) [(a, .inl (cA, n, .inl f))] := by
    refine ⟨fun i j p q hi hj _ => ?_, fun k q hk => ⟨k, q.2, hk⟩⟩
    have h1 : i < 1 := (List.getElem?_eq_some_iff.mp hi).1
    have h2 : j < 1 := (List.getElem?_eq_some_iff.mp hj).1
    omega
  have hS : va_S (k_A [(a, .inl (cA, n, .inl f))]) s.heap s.heap [] := va_S.rf
  refine lv_iconst (v := nI 0) hx hb dJ7_fill_53178_0 (by decide) ?_
  refine lv_istore_n (lv' := [(2, .int (nI 0)), (0, .ref a), (1, .int x)]) hx hb dJ7_fill_53178_1 rfl hl (by decide) rfl (fun ls hl => ?_)
  refine lv_aload_n hx hb dJ7_fill_53178_2 rfl (lv_at hl 1 rfl) ?_
  refine va_alen hx hb hK hP 0 0 rfl rfl (v := nI n) rfl dJ7_fill_53178_3 ?_
  refine lv_istore_n (lv' := [(3, .int (nI n)), (2, .int (nI 0)), (0, .ref a), (1, .int x)]) hx hb dJ7_fill_53178_4 rfl hl (by decide) rfl (fun ls hl => ?_)
  refine W.loopH (fun i H locs ls => va_P D vwCl [(a, .inl (cA, n, .inl (fa_fill (fun _ => x) f i)))] H ∧ va_D (k_A [(a, .inl (cA, n, .inl f))]) [(a, .inl (cA, n, .inl (fa_fill (fun _ => x) f i)))] ∧ va_S (k_A [(a, .inl (cA, n, .inl f))]) s.heap H locs ∧ lv_has ls 4 [(0, .ref a), (1, .int x), (2, .int (nI i)), (3, .int (nI n))]) n 0 (Nat.zero_le _) ⟨by rw [fa_fill_0]; exact hP, by rw [fa_fill_0]; exact hD, hS, lv_sub hl [2, 3, 1, 0] rfl⟩ ?_
  intro i H locs ls hi hI ih
  obtain ⟨hP, hD, hS, hl⟩ := hI
  refine lv_iload_n hx hb dJ7_fill_53178_5 rfl (lv_at hl 2 rfl) ?_
  refine lv_iload_n hx hb dJ7_fill_53178_6 rfl (lv_at hl 3 rfl) ?_
  refine n_icmp_ge (tgt := 20) hx hb dJ7_fill_53178_7 (by decide) (by omega) (by omega) (fun c7 => ?_) (fun c7 => ?_)
  · have e : i = n := by omega
    subst e
    exact k_wvret () hx hb hr hlocks dJ7_fill_53178_20 trivial rfl hP hS (Nat.le_of_ble_eq_true rfl) (Nat.le_of_ble_eq_true rfl)
  · refine lv_aload_n hx hb dJ7_fill_53178_10 rfl (lv_at hl 0 rfl) ?_
    refine lv_iload_n hx hb dJ7_fill_53178_11 rfl (lv_at hl 2 rfl) ?_
    refine lv_iload_n hx hb dJ7_fill_53178_12 rfl (lv_at hl 1 rfl) ?_
    refine n_iast hx hb hK hP hD hS 0 0 rfl rfl (k := i) c7 hn dJ7_fill_53178_13 (fun H locs hP hD hS => ?_)
    refine lv_iinc (v := nI (i + 1)) (lv' := [(2, .int (nI (i + 1))), (0, .ref a), (1, .int x), (3, .int (nI n))]) hx hb dJ7_fill_53178_14 hl (k := 2) rfl (nI_inc _) (by decide) rfl (fun ls hl => ?_)
    refine lv_goto (tgt := 5) hx hb dJ7_fill_53178_17 (by decide) ?_
    refine ih _ _ _ c7 ⟨?_, ?_, hS, lv_sub hl [1, 2, 0, 3] rfl⟩
    · rw [← fa_fill_succ]; exact hP
    · rw [← fa_fill_succ]; exact hD
end
section
set_option maxHeartbeats 4000000 in
set_option maxRecDepth 100000 in
theorem c_X0_stroke (l : Launch) (D : va_G) (cI : ClassId) (q : Nat → Nat) (sh sp ld nm tx ds ct : Nat → Int32) (co : Int64) (kg : Int32) (ks : Nat → Int32) (g a b c0 d0 : Nat) (bk : Int32) (hg : g < 8) (ha : a < 5) (hb5 : b < 5) (hc : c0 < 5) (hd : d0 < 5) (hln : lnK a b c0 d0 = true) (hsh : ∀ g, g < 8 → S25 (sh g)) (hDt : va_D (fun _ => True) (wx cI q sh sp ld nm tx ds ct co kg ks)) : Met l yX0_stroke wsX0_stroke ({ frames := 2, cells := 0, slots := 0, locals := 51 } : Room) (k_P [.ref (q 0), .int (nI g), .int (nI a), .int (nI b), .int (nI c0), .int (nI d0), .int bk] (k_B D (wx cI q sh sp ld nm tx ds ct co kg ks) [(cI, .int)])) (k_WQ D (wx cI q sh sp ld nm tx ds ct co kg ks) (fun u : Unit => True) (fun u => wx cI q (upd sh g (stk bk (sh g) (lcN a b c0 d0))) sp ld nm tx ds ct co (nI 0) ks) (fun u => some (.int (df (sh g) (stk bk (sh g) (lcN a b c0 d0)))))) 0 0 (k_A (wx cI q sh sp ld nm tx ds ct co kg ks)) := by
  refine k_head (cc := cX0_stroke) (maxL := 10) (ret := (some .int)) [(0, .ref (q 0)), (1, .int (nI g)), (2, .int (nI a)), (3, .int (nI b)), (4, .int (nI c0)), (5, .int (nI d0)), (6, .int bk)] (by decide) rfl (Nat.le_of_ble_eq_true rfl) rfl ?_
  intro p e s m below meth c ls hx hb hr hml hown hts hlocks hname hB hl
  have hown : s.vm.findClass RX0 = some m.cls := hown
  obtain ⟨hP, hK⟩ := hB
  have hin : ∀ w ∈ wsX00, w ∈ wsX0_stroke := fun w h => List.mem_cons_of_mem _ (List.mem_append_left _ (List.mem_append_left _ (List.mem_append_right _ h)))
  have hD := k_A_D hDt
  have hS : va_S (k_A (wx cI q sh sp ld nm tx ds ct co kg ks)) s.heap s.heap [] := va_S.rf
  refine lv_iload_n hx hb dX0_stroke_0 rfl (lv_at hl 1 rfl) ?_
  refine k_callS0 (As := [.int (nI g)]) (rest := []) ⟨hx, hb, hml, hown, hts⟩ (c_X0_requireGlyph l g (by omega)) (va_cwS 1 hts gX0_stroke_X0_requireGlyph rfl rfl rfl (by decide +kernel) ⟨Nat.le_of_ble_eq_true rfl, Nat.le_of_ble_eq_true rfl⟩) k_bl_tt (fun _ _ _ => trivial) rfl hl.1 rfl (Nat.le_of_ble_eq_true rfl) dX0_stroke_1 ⟨Nat.zero_le _, Nat.zero_le _⟩ ?_
  refine lv_iload_n hx hb dX0_stroke_4 rfl (lv_at hl 2 rfl) ?_
  refine lv_iload_n hx hb dX0_stroke_5 rfl (lv_at hl 3 rfl) ?_
  refine lv_iload hx hb dX0_stroke_6 (lv_at hl 4 rfl) ?_
  refine lv_iload hx hb dX0_stroke_8 (lv_at hl 5 rfl) ?_
  refine k_callS0 (As := [.int (nI a), .int (nI b), .int (nI c0), .int (nI d0)]) (rest := []) ⟨hx, hb, hml, hown, hts⟩ (c_X0_requireLine l a b c0 d0 (by omega) (by omega) (by omega) (by omega) hln) (va_cwS 4 hts gX0_stroke_X0_requireLine rfl rfl rfl (by decide +kernel) ⟨Nat.le_of_ble_eq_true rfl, Nat.le_of_ble_eq_true rfl⟩) k_bl_tt (fun _ _ _ => trivial) rfl hl.1 rfl (Nat.le_of_ble_eq_true rfl) dX0_stroke_10 ⟨Nat.zero_le _, Nat.zero_le _⟩ ?_
  refine lv_iload_n hx hb dX0_stroke_13 rfl (lv_at hl 2 rfl) ?_
  refine lv_iload_n hx hb dX0_stroke_14 rfl (lv_at hl 3 rfl) ?_
  refine lv_iload hx hb dX0_stroke_15 (lv_at hl 4 rfl) ?_
  refine lv_iload hx hb dX0_stroke_17 (lv_at hl 5 rfl) ?_
  refine k_callSi (As := [.int (nI a), .int (nI b), .int (nI c0), .int (nI d0)]) (rest := []) ⟨hx, hb, hml, hown, hts⟩ (c_X0_lineCells l a b c0 d0 (by omega) (by omega) (by omega) (by omega)) (va_cwS 4 hts gX0_stroke_X0_lineCells rfl rfl rfl (by decide +kernel) ⟨Nat.le_of_ble_eq_true rfl, Nat.le_of_ble_eq_true rfl⟩) k_bl_tt (fun _ _ _ => trivial) rfl hl.1 rfl (Nat.le_of_ble_eq_true rfl) dX0_stroke_19 ⟨Nat.zero_le _, Nat.zero_le _⟩ ?_
  refine lv_istore (lv' := [(7, .int (lcN a b c0 d0)), (0, .ref (q 0)), (1, .int (nI g)), (2, .int (nI a)), (3, .int (nI b)), (4, .int (nI c0)), (5, .int (nI d0)), (6, .int bk)]) hx hb dX0_stroke_22 hl (by decide) rfl (fun ls hl => ?_)
  refine lv_aload_n hx hb dX0_stroke_24 rfl (lv_at hl 1 rfl) ?_
  refine va_get (D := D) (ci := 0) (v := .ref (q 1)) (C := RX0) (T := TX0) (N := 10) hx hb hts hin hown hK hP 0 rfl rfl 0 (by decide) (hts (.fieldLink RX0 9 "SignRail" "shapes" "[I") (by decide +kernel)) (fun _ h9 => h9) rfl dX0_stroke_25 ?_
  refine lv_iload_n hx hb dX0_stroke_28 rfl (lv_at hl 2 rfl) ?_
  refine n_iald hx hb hK hP 1 0 rfl rfl (k := g) (by omega) (Nat.le_of_ble_eq_true rfl) dX0_stroke_29 ?_
  refine lv_istore (lv' := [(8, .int (sh g)), (7, .int (lcN a b c0 d0)), (0, .ref (q 0)), (1, .int (nI g)), (2, .int (nI a)), (3, .int (nI b)), (4, .int (nI c0)), (5, .int (nI d0)), (6, .int bk)]) hx hb dX0_stroke_30 hl (by decide) rfl (fun ls hl => ?_)
  refine lv_iload hx hb dX0_stroke_32 (lv_at hl 8 rfl) ?_
  refine lv_if_eq (tgt := 45) hx hb dX0_stroke_34 (by decide) (fun c_34 => ?_) (fun c_34 => ?_)
  · refine lv_iload hx hb dX0_stroke_45 (lv_at hl 0 rfl) ?_
    refine lv_iload hx hb dX0_stroke_47 (lv_at hl 1 rfl) ?_
    refine lv_iconst (v := (-1)) hx hb dX0_stroke_49 (by decide) ?_
    refine lv_ixor hx hb dX0_stroke_50 ?_
    refine lv_iand hx hb dX0_stroke_51 ?_
    refine lv_as (y := stk bk (sh g) (lcN a b c0 d0)) ((if_pos c_34).symm) ?_
    refine lv_istore (lv' := [(9, .int (stk bk (sh g) (lcN a b c0 d0))), (8, .int (sh g)), (7, .int (lcN a b c0 d0)), (0, .ref (q 0)), (1, .int (nI g)), (2, .int (nI a)), (3, .int (nI b)), (4, .int (nI c0)), (5, .int (nI d0)), (6, .int bk)]) hx hb dX0_stroke_52 hl (by decide) rfl (fun ls hl => ?_)
    refine lv_aload_n hx hb dX0_stroke_54 rfl (lv_at hl 3 rfl) ?_
    refine va_get (D := D) (ci := 0) (v := .ref (q 1)) (C := RX0) (T := TX0) (N := 10) hx hb hts hin hown hK hP 0 rfl rfl 0 (by decide) (hts (.fieldLink RX0 9 "SignRail" "shapes" "[I") (by decide +kernel)) (fun _ h9 => h9) rfl dX0_stroke_55 ?_
    refine lv_iload_n hx hb dX0_stroke_58 rfl (lv_at hl 4 rfl) ?_
    refine lv_iload hx hb dX0_stroke_59 (lv_at hl 0 rfl) ?_
    refine n_iast hx hb hK hP hD hS 1 0 rfl rfl (k := g) (by omega) (Nat.le_of_ble_eq_true rfl) dX0_stroke_61 (fun H locs hP hD hS => ?_)
    have hP : va_P D vwCl (wx cI q (upd sh g (stk bk (sh g) (lcN a b c0 d0))) sp ld nm tx ds ct co kg ks) H := hP
    have hD : va_D _ (wx cI q (upd sh g (stk bk (sh g) (lcN a b c0 d0))) sp ld nm tx ds ct co kg ks) := hD
    refine lv_aload_n hx hb dX0_stroke_62 rfl (lv_at hl 3 rfl) ?_
    refine k_callVW (wr := []) (As := []) (rest := []) ⟨hx, hb, hml, hown, hts⟩ (c_X0_forgetWalks l D cI q (upd sh g (stk bk (sh g) (lcN a b c0 d0))) sp ld nm tx ds ct co kg ks (k_D_tt hD)) (cwV 0 hts gX0_stroke_X0_forgetWalks rfl rfl rfl (by decide +kernel) ⟨Nat.le_of_ble_eq_true rfl, Nat.le_of_ble_eq_true rfl⟩) k_B_bl (k_B_of hP hK) (va_recv hK hP (ci := 0) (q0 := 0) rfl rfl) rfl hl.1 rfl (Nat.le_of_ble_eq_true rfl) dX0_stroke_63 ⟨Nat.le_of_ble_eq_true rfl, Nat.le_of_ble_eq_true rfl⟩ hP hD hS [] [0, 1, 2, 3, 4, 5, 6, 7, 8] rfl rfl (fun _ => rfl) (fun u_63 H locs hu_63 hP hD hS hsz hkp => ?_)
    have hP : va_P D vwCl (wx cI q (upd sh g (stk bk (sh g) (lcN a b c0 d0))) sp ld nm tx ds ct co (nI 0) ks) H := hP
    have hD : va_D _ (wx cI q (upd sh g (stk bk (sh g) (lcN a b c0 d0))) sp ld nm tx ds ct co (nI 0) ks) := hD
    refine lv_iload hx hb dX0_stroke_66 (lv_at hl 1 rfl) ?_
    refine lv_iload hx hb dX0_stroke_68 (lv_at hl 0 rfl) ?_
    refine k_callSi (As := [.int (sh g), .int (stk bk (sh g) (lcN a b c0 d0))]) (rest := []) ⟨hx, hb, hml, hown, hts⟩ (c_X0_differing l (sh g) (stk bk (sh g) (lcN a b c0 d0)) (hsh _ hg) (S25_stk (hsh _ hg) (S25_lcN ha hb5 hc hd hln))) (va_cwS 2 hts gX0_stroke_X0_differing rfl rfl rfl (by decide +kernel) ⟨Nat.le_of_ble_eq_true rfl, Nat.le_of_ble_eq_true rfl⟩) k_bl_tt (fun _ _ _ => trivial) rfl hl.1 rfl (Nat.le_of_ble_eq_true rfl) dX0_stroke_70 ⟨Nat.zero_le _, Nat.zero_le _⟩ ?_
    exact k_wiret (())  hx hb hr hlocks dX0_stroke_73 (trivial) rfl hP hS (Nat.le_of_ble_eq_true rfl) (Nat.le_of_ble_eq_true rfl)
  · refine lv_iload hx hb dX0_stroke_37 (lv_at hl 0 rfl) ?_
    refine lv_iload hx hb dX0_stroke_39 (lv_at hl 1 rfl) ?_
    refine lv_ior hx hb dX0_stroke_41 ?_
    refine lv_as (y := stk bk (sh g) (lcN a b c0 d0)) ((if_neg c_34).symm) ?_
    refine lv_goto (tgt := 52) hx hb dX0_stroke_42 (by decide) ?_
    refine lv_istore (lv' := [(9, .int (stk bk (sh g) (lcN a b c0 d0))), (8, .int (sh g)), (7, .int (lcN a b c0 d0)), (0, .ref (q 0)), (1, .int (nI g)), (2, .int (nI a)), (3, .int (nI b)), (4, .int (nI c0)), (5, .int (nI d0)), (6, .int bk)]) hx hb dX0_stroke_52 hl (by decide) rfl (fun ls hl => ?_)
    refine lv_aload_n hx hb dX0_stroke_54 rfl (lv_at hl 3 rfl) ?_
    refine va_get (D := D) (ci := 0) (v := .ref (q 1)) (C := RX0) (T := TX0) (N := 10) hx hb hts hin hown hK hP 0 rfl rfl 0 (by decide) (hts (.fieldLink RX0 9 "SignRail" "shapes" "[I") (by decide +kernel)) (fun _ h9 => h9) rfl dX0_stroke_55 ?_
    refine lv_iload_n hx hb dX0_stroke_58 rfl (lv_at hl 4 rfl) ?_
    refine lv_iload hx hb dX0_stroke_59 (lv_at hl 0 rfl) ?_
    refine n_iast hx hb hK hP hD hS 1 0 rfl rfl (k := g) (by omega) (Nat.le_of_ble_eq_true rfl) dX0_stroke_61 (fun H locs hP hD hS => ?_)
    have hP : va_P D vwCl (wx cI q (upd sh g (stk bk (sh g) (lcN a b c0 d0))) sp ld nm tx ds ct co kg ks) H := hP
    have hD : va_D _ (wx cI q (upd sh g (stk bk (sh g) (lcN a b c0 d0))) sp ld nm tx ds ct co kg ks) := hD
    refine lv_aload_n hx hb dX0_stroke_62 rfl (lv_at hl 3 rfl) ?_
    refine k_callVW (wr := []) (As := []) (rest := []) ⟨hx, hb, hml, hown, hts⟩ (c_X0_forgetWalks l D cI q (upd sh g (stk bk (sh g) (lcN a b c0 d0))) sp ld nm tx ds ct co kg ks (k_D_tt hD)) (cwV 0 hts gX0_stroke_X0_forgetWalks rfl rfl rfl (by decide +kernel) ⟨Nat.le_of_ble_eq_true rfl, Nat.le_of_ble_eq_true rfl⟩) k_B_bl (k_B_of hP hK) (va_recv hK hP (ci := 0) (q0 := 0) rfl rfl) rfl hl.1 rfl (Nat.le_of_ble_eq_true rfl) dX0_stroke_63 ⟨Nat.le_of_ble_eq_true rfl, Nat.le_of_ble_eq_true rfl⟩ hP hD hS [] [0, 1, 2, 3, 4, 5, 6, 7, 8] rfl rfl (fun _ => rfl) (fun u_63 H locs hu_63 hP hD hS hsz hkp => ?_)
    have hP : va_P D vwCl (wx cI q (upd sh g (stk bk (sh g) (lcN a b c0 d0))) sp ld nm tx ds ct co (nI 0) ks) H := hP
    have hD : va_D _ (wx cI q (upd sh g (stk bk (sh g) (lcN a b c0 d0))) sp ld nm tx ds ct co (nI 0) ks) := hD
    refine lv_iload hx hb dX0_stroke_66 (lv_at hl 1 rfl) ?_
    refine lv_iload hx hb dX0_stroke_68 (lv_at hl 0 rfl) ?_
    refine k_callSi (As := [.int (sh g), .int (stk bk (sh g) (lcN a b c0 d0))]) (rest := []) ⟨hx, hb, hml, hown, hts⟩ (c_X0_differing l (sh g) (stk bk (sh g) (lcN a b c0 d0)) (hsh _ hg) (S25_stk (hsh _ hg) (S25_lcN ha hb5 hc hd hln))) (va_cwS 2 hts gX0_stroke_X0_differing rfl rfl rfl (by decide +kernel) ⟨Nat.le_of_ble_eq_true rfl, Nat.le_of_ble_eq_true rfl⟩) k_bl_tt (fun _ _ _ => trivial) rfl hl.1 rfl (Nat.le_of_ble_eq_true rfl) dX0_stroke_70 ⟨Nat.zero_le _, Nat.zero_le _⟩ ?_
    exact k_wiret (())  hx hb hr hlocks dX0_stroke_73 (trivial) rfl hP hS (Nat.le_of_ble_eq_true rfl) (Nat.le_of_ble_eq_true rfl)
set_option maxHeartbeats 4000000 in
set_option maxRecDepth 100000 in
theorem c_X0_difference (l : Launch) (D : va_G) (cI : ClassId) (q : Nat → Nat) (sh sp ld nm tx ds ct : Nat → Int32) (co : Int64) (kg : Int32) (ks : Nat → Int32) (i j : Nat) (hi : i < 8) (hj : j < 8) (hsh : ∀ g, g < 8 → S25 (sh g)) : k_M l yX0_difference wsX0_difference ({ frames := 2, cells := 0, slots := 0, locals := 41 } : Room) [.ref (q 0), .int (nI i), .int (nI j)] (k_B D (wx cI q sh sp ld nm tx ds ct co kg ks) [(cI, .int)]) (some (.int (df (sh i) (sh j)))) := by
  refine k_head (cc := cX0_difference) (maxL := 3) (ret := some .int) [(0, .ref (q 0)), (1, .int (nI i)), (2, .int (nI j))] (by decide) rfl (Nat.le_of_ble_eq_true rfl) rfl ?_
  intro p e s m below meth c ls hx hb hr hml hown hts hlocks hname hB hl
  have hown : s.vm.findClass RX0 = some m.cls := hown
  obtain ⟨hP, hK⟩ := hB
  have hin : ∀ w ∈ wsX00, w ∈ wsX0_difference := fun w h => List.mem_cons_of_mem _ (List.mem_append_left _ (List.mem_append_right _ h))
  refine lv_iload_n hx hb dX0_difference_0 rfl (lv_at hl 1 rfl) ?_
  refine k_callS0 (As := [.int (nI i)]) (rest := []) ⟨hx, hb, hml, hown, hts⟩ (c_X0_requireGlyph l i (by omega)) (va_cwS 1 hts gX0_difference_X0_requireGlyph rfl rfl rfl (by decide +kernel) ⟨Nat.le_of_ble_eq_true rfl, Nat.le_of_ble_eq_true rfl⟩) k_bl_tt (fun _ _ _ => trivial) rfl hl.1 rfl (Nat.le_of_ble_eq_true rfl) dX0_difference_1 ⟨Nat.zero_le _, Nat.zero_le _⟩ ?_
  refine lv_iload_n hx hb dX0_difference_4 rfl (lv_at hl 2 rfl) ?_
  refine k_callS0 (As := [.int (nI j)]) (rest := []) ⟨hx, hb, hml, hown, hts⟩ (c_X0_requireGlyph l j (by omega)) (va_cwS 1 hts gX0_difference_X0_requireGlyph rfl rfl rfl (by decide +kernel) ⟨Nat.le_of_ble_eq_true rfl, Nat.le_of_ble_eq_true rfl⟩) k_bl_tt (fun _ _ _ => trivial) rfl hl.1 rfl (Nat.le_of_ble_eq_true rfl) dX0_difference_5 ⟨Nat.zero_le _, Nat.zero_le _⟩ ?_
  refine lv_aload_n hx hb dX0_difference_8 rfl (lv_at hl 0 rfl) ?_
  refine va_get (D := D) (ci := 0) (v := .ref (q 1)) (C := RX0) (T := TX0) (N := 10) hx hb hts hin hown hK hP 0 rfl rfl 0 (by decide) (hts (.fieldLink RX0 9 "SignRail" "shapes" "[I") (by decide +kernel)) (fun _ h9 => h9) rfl dX0_difference_9 ?_
  refine lv_iload_n hx hb dX0_difference_12 rfl (lv_at hl 1 rfl) ?_
  refine n_iald hx hb hK hP 1 0 rfl rfl (k := i) (by omega) (Nat.le_of_ble_eq_true rfl) dX0_difference_13 ?_
  refine lv_aload_n hx hb dX0_difference_14 rfl (lv_at hl 0 rfl) ?_
  refine va_get (D := D) (ci := 0) (v := .ref (q 1)) (C := RX0) (T := TX0) (N := 10) hx hb hts hin hown hK hP 0 rfl rfl 0 (by decide) (hts (.fieldLink RX0 9 "SignRail" "shapes" "[I") (by decide +kernel)) (fun _ h9 => h9) rfl dX0_difference_15 ?_
  refine lv_iload_n hx hb dX0_difference_18 rfl (lv_at hl 2 rfl) ?_
  refine n_iald hx hb hK hP 1 0 rfl rfl (k := j) (by omega) (Nat.le_of_ble_eq_true rfl) dX0_difference_19 ?_
  refine k_callSi (As := [.int (sh i), .int (sh j)]) (rest := []) ⟨hx, hb, hml, hown, hts⟩ (c_X0_differing l (sh i) (sh j) (hsh _ hi) (hsh _ hj)) (va_cwS 2 hts gX0_difference_X0_differing rfl rfl rfl (by decide +kernel) ⟨Nat.le_of_ble_eq_true rfl, Nat.le_of_ble_eq_true rfl⟩) k_bl_tt (fun _ _ _ => trivial) rfl hl.1 rfl (Nat.le_of_ble_eq_true rfl) dX0_difference_20 ⟨Nat.zero_le _, Nat.zero_le _⟩ ?_
  exact k_iret hx hb hr hlocks dX0_difference_23 (rfl)
set_option maxHeartbeats 4000000 in
set_option maxRecDepth 100000 in
theorem c_X0_width (l : Launch) (D : va_G) (cI : ClassId) (q : Nat → Nat) (sh sp ld nm tx ds ct : Nat → Int32) (co : Int64) (kg : Int32) (ks : Nat → Int32) (g : Nat) (hg : g < 8) : k_M l yX0_width wsX0_width ({ frames := 4, cells := 0, slots := 0, locals := 95 } : Room) [.ref (q 0), .int (nI g)] (k_B D (wx cI q sh sp ld nm tx ds ct co kg ks) [(cI, .int)]) (some (.int (wdF (hcC (sh g))))) := by
  refine k_head (cc := cX0_width) (maxL := 2) (ret := some .int) [(0, .ref (q 0)), (1, .int (nI g))] (by decide) rfl (Nat.le_of_ble_eq_true rfl) rfl ?_
  intro p e s m below meth c ls hx hb hr hml hown hts hlocks hname hB hl
  have hown : s.vm.findClass RX0 = some m.cls := hown
  obtain ⟨hP, hK⟩ := hB
  have hin : ∀ w ∈ wsX00, w ∈ wsX0_width := fun w h => List.mem_cons_of_mem _ (List.mem_append_left _ (List.mem_append_right _ h))
  refine lv_iload_n hx hb dX0_width_0 rfl (lv_at hl 1 rfl) ?_
  refine k_callS0 (As := [.int (nI g)]) (rest := []) ⟨hx, hb, hml, hown, hts⟩ (c_X0_requireGlyph l g (by omega)) (va_cwS 1 hts gX0_width_X0_requireGlyph rfl rfl rfl (by decide +kernel) ⟨Nat.le_of_ble_eq_true rfl, Nat.le_of_ble_eq_true rfl⟩) k_bl_tt (fun _ _ _ => trivial) rfl hl.1 rfl (Nat.le_of_ble_eq_true rfl) dX0_width_1 ⟨Nat.zero_le _, Nat.zero_le _⟩ ?_
  refine lv_aload_n hx hb dX0_width_4 rfl (lv_at hl 0 rfl) ?_
  refine va_get (D := D) (ci := 0) (v := .ref (q 1)) (C := RX0) (T := TX0) (N := 10) hx hb hts hin hown hK hP 0 rfl rfl 0 (by decide) (hts (.fieldLink RX0 9 "SignRail" "shapes" "[I") (by decide +kernel)) (fun _ h9 => h9) rfl dX0_width_5 ?_
  refine lv_iload_n hx hb dX0_width_8 rfl (lv_at hl 1 rfl) ?_
  refine n_iald hx hb hK hP 1 0 rfl rfl (k := g) (by omega) (Nat.le_of_ble_eq_true rfl) dX0_width_9 ?_
  refine k_callSi (As := [.int (sh g)]) (rest := []) ⟨hx, hb, hml, hown, hts⟩ (c_X0_shapeWidth l (sh g)) (va_cwS 1 hts gX0_width_X0_shapeWidth rfl rfl rfl (by decide +kernel) ⟨Nat.le_of_ble_eq_true rfl, Nat.le_of_ble_eq_true rfl⟩) k_bl_tt (fun _ _ _ => trivial) rfl hl.1 rfl (Nat.le_of_ble_eq_true rfl) dX0_width_10 ⟨Nat.zero_le _, Nat.zero_le _⟩ ?_
  exact k_iret hx hb hr hlocks dX0_width_13 (rfl)
set_option maxHeartbeats 4000000 in
set_option maxRecDepth 100000 in
theorem c_X0_space (l : Launch) (D : va_G) (cI : ClassId) (q : Nat → Nat) (sh sp ld nm tx ds ct : Nat → Int32) (co : Int64) (kg : Int32) (ks : Nat → Int32) (i j : Nat) (v : Int32) (hi : i < 8) (hj : j < 8) (hv1 : ¬ v < -1) (hv2 : v ≤ nI 3) (hDt : va_D (fun _ => True) (wx cI q sh sp ld nm tx ds ct co kg ks)) : Met l yX0_space wsX0_space ({ frames := 1, cells := 0, slots := 0, locals := 21 } : Room) (k_P [.ref (q 0), .int (nI i), .int (nI j), .int v] (k_B D (wx cI q sh sp ld nm tx ds ct co kg ks) [(cI, .int)])) (k_WQ D (wx cI q sh sp ld nm tx ds ct co kg ks) (fun u : Unit => True) (fun u => wx cI q sh (upd sp (i * 8 + j) v) ld nm tx ds ct co kg ks) (fun u => some (.int (sp (i * 8 + j))))) 0 0 (k_A (wx cI q sh sp ld nm tx ds ct co kg ks)) := by
  refine k_head (cc := cX0_space) (maxL := 6) (ret := (some .int)) [(0, .ref (q 0)), (1, .int (nI i)), (2, .int (nI j)), (3, .int v)] (by decide) rfl (Nat.le_of_ble_eq_true rfl) rfl ?_
  intro p e s m below meth c ls hx hb hr hml hown hts hlocks hname hB hl
  have hown : s.vm.findClass RX0 = some m.cls := hown
  obtain ⟨hP, hK⟩ := hB
  have hin : ∀ w ∈ wsX00, w ∈ wsX0_space := fun w h => List.mem_cons_of_mem _ (List.mem_append_left _ (List.mem_append_left _ (List.mem_append_right _ h)))
  have hD := k_A_D hDt
  have hS : va_S (k_A (wx cI q sh sp ld nm tx ds ct co kg ks)) s.heap s.heap [] := va_S.rf
  refine lv_iload_n hx hb dX0_space_0 rfl (lv_at hl 1 rfl) ?_
  refine k_callS0 (As := [.int (nI i)]) (rest := []) ⟨hx, hb, hml, hown, hts⟩ (c_X0_requireGlyph l i (by omega)) (va_cwS 1 hts gX0_space_X0_requireGlyph rfl rfl rfl (by decide +kernel) ⟨Nat.le_of_ble_eq_true rfl, Nat.le_of_ble_eq_true rfl⟩) k_bl_tt (fun _ _ _ => trivial) rfl hl.1 rfl (Nat.le_of_ble_eq_true rfl) dX0_space_1 ⟨Nat.zero_le _, Nat.zero_le _⟩ ?_
  refine lv_iload_n hx hb dX0_space_4 rfl (lv_at hl 2 rfl) ?_
  refine k_callS0 (As := [.int (nI j)]) (rest := []) ⟨hx, hb, hml, hown, hts⟩ (c_X0_requireGlyph l j (by omega)) (va_cwS 1 hts gX0_space_X0_requireGlyph rfl rfl rfl (by decide +kernel) ⟨Nat.le_of_ble_eq_true rfl, Nat.le_of_ble_eq_true rfl⟩) k_bl_tt (fun _ _ _ => trivial) rfl hl.1 rfl (Nat.le_of_ble_eq_true rfl) dX0_space_5 ⟨Nat.zero_le _, Nat.zero_le _⟩ ?_
  refine lv_iload_n hx hb dX0_space_8 rfl (lv_at hl 3 rfl) ?_
  refine lv_iconst (v := (-1)) hx hb dX0_space_9 (by decide) ?_
  refine lv_icmp_lt (tgt := 18) hx hb dX0_space_10 (by decide) (fun c_10 => ?_) (fun c_10 => ?_)
  · exact absurd c_10 hv1
  · refine lv_iload_n hx hb dX0_space_13 rfl (lv_at hl 3 rfl) ?_
    refine lv_iconst (v := nI 3) hx hb dX0_space_14 (by decide) ?_
    refine lv_icmp_le (tgt := 28) hx hb dX0_space_15 (by decide) (fun c_15 => ?_) (fun c_15 => ?_)
    · refine lv_iload_n hx hb dX0_space_28 rfl (lv_at hl 1 rfl) ?_
      refine lv_iload_n hx hb dX0_space_29 rfl (lv_at hl 2 rfl) ?_
      refine k_callSi (As := [.int (nI i), .int (nI j)]) (rest := []) ⟨hx, hb, hml, hown, hts⟩ (c_X0_pairOf l i j) (va_cwS 2 hts gX0_space_X0_pairOf rfl rfl rfl (by decide +kernel) ⟨Nat.le_of_ble_eq_true rfl, Nat.le_of_ble_eq_true rfl⟩) k_bl_tt (fun _ _ _ => trivial) rfl hl.1 rfl (Nat.le_of_ble_eq_true rfl) dX0_space_30 ⟨Nat.zero_le _, Nat.zero_le _⟩ ?_
      refine lv_istore (lv' := [(4, .int (nI (i * 8 + j))), (0, .ref (q 0)), (1, .int (nI i)), (2, .int (nI j)), (3, .int v)]) hx hb dX0_space_33 hl (by decide) rfl (fun ls hl => ?_)
      refine lv_aload_n hx hb dX0_space_35 rfl (lv_at hl 1 rfl) ?_
      refine va_get (D := D) (ci := 0) (v := .ref (q 2)) (C := RX0) (T := TX0) (N := 10) hx hb hts hin hown hK hP 0 rfl rfl 1 (by decide) (hts (.fieldLink RX0 13 "SignRail" "spaces" "[I") (by decide +kernel)) (fun _ h9 => h9) rfl dX0_space_36 ?_
      refine lv_iload hx hb dX0_space_39 (lv_at hl 0 rfl) ?_
      refine n_iald hx hb hK hP 2 0 rfl rfl (k := (i * 8 + j)) (by omega) (Nat.le_of_ble_eq_true rfl) dX0_space_41 ?_
      refine lv_istore (lv' := [(5, .int (sp (i * 8 + j))), (4, .int (nI (i * 8 + j))), (0, .ref (q 0)), (1, .int (nI i)), (2, .int (nI j)), (3, .int v)]) hx hb dX0_space_42 hl (by decide) rfl (fun ls hl => ?_)
      refine lv_aload_n hx hb dX0_space_44 rfl (lv_at hl 2 rfl) ?_
      refine va_get (D := D) (ci := 0) (v := .ref (q 2)) (C := RX0) (T := TX0) (N := 10) hx hb hts hin hown hK hP 0 rfl rfl 1 (by decide) (hts (.fieldLink RX0 13 "SignRail" "spaces" "[I") (by decide +kernel)) (fun _ h9 => h9) rfl dX0_space_45 ?_
      refine lv_iload hx hb dX0_space_48 (lv_at hl 1 rfl) ?_
      refine lv_iload_n hx hb dX0_space_50 rfl (lv_at hl 5 rfl) ?_
      refine n_iast hx hb hK hP hD hS 2 0 rfl rfl (k := (i * 8 + j)) (by omega) (Nat.le_of_ble_eq_true rfl) dX0_space_51 (fun H locs hP hD hS => ?_)
      have hP : va_P D vwCl (wx cI q sh (upd sp (i * 8 + j) v) ld nm tx ds ct co kg ks) H := hP
      have hD : va_D _ (wx cI q sh (upd sp (i * 8 + j) v) ld nm tx ds ct co kg ks) := hD
      refine lv_iload hx hb dX0_space_52 (lv_at hl 0 rfl) ?_
      exact k_wiret (())  hx hb hr hlocks dX0_space_54 (trivial) rfl hP hS (Nat.le_of_ble_eq_true rfl) (Nat.le_of_ble_eq_true rfl)
    · exact absurd hv2 c_15
set_option maxHeartbeats 4000000 in
set_option maxRecDepth 100000 in
theorem c_X0_lead (l : Launch) (D : va_G) (cI : ClassId) (q : Nat → Nat) (sh sp ld nm tx ds ct : Nat → Int32) (co : Int64) (kg : Int32) (ks : Nat → Int32) (p0 x0 : Nat) (hp : p0 < 8) (hx0 : x0 < 4) (a : Nat) (ha : a ≤ 8) (hDt : va_D (fun _ => True) (wx cI q sh sp ld nm tx ds ct co kg ks)) : Met l yX0_lead wsX0_lead ({ frames := 2, cells := 0, slots := 0, locals := 41 } : Room) (k_P [.ref (q 0), .int (nI p0), .int (nI x0), .int (ix a)] (k_B D (wx cI q sh sp ld nm tx ds ct co kg ks) [(cI, .int)])) (k_WQ D (wx cI q sh sp ld nm tx ds ct co kg ks) (fun u : Unit => True) (fun u => wx cI q sh sp (upd ld (p0 * 4 + x0) (ix a)) nm tx ds ct co (nI 0) ks) (fun u => some (.int (ld (p0 * 4 + x0))))) 0 0 (k_A (wx cI q sh sp ld nm tx ds ct co kg ks)) := by
  refine k_head (cc := cX0_lead) (maxL := 6) (ret := (some .int)) [(0, .ref (q 0)), (1, .int (nI p0)), (2, .int (nI x0)), (3, .int (ix a))] (by decide) rfl (Nat.le_of_ble_eq_true rfl) rfl ?_
  intro p e s m below meth c ls hx hb hr hml hown hts hlocks hname hB hl
  have hown : s.vm.findClass RX0 = some m.cls := hown
  obtain ⟨hP, hK⟩ := hB
  have hin : ∀ w ∈ wsX00, w ∈ wsX0_lead := fun w h => List.mem_cons_of_mem _ (List.mem_append_left _ (List.mem_append_right _ h))
  have hD := k_A_D hDt
  have hS : va_S (k_A (wx cI q sh sp ld nm tx ds ct co kg ks)) s.heap s.heap [] := va_S.rf
  refine lv_iload_n hx hb dX0_lead_0 rfl (lv_at hl 1 rfl) ?_
  refine lv_iload_n hx hb dX0_lead_1 rfl (lv_at hl 2 rfl) ?_
  refine k_callS0 (As := [.int (nI p0), .int (nI x0)]) (rest := []) ⟨hx, hb, hml, hown, hts⟩ (c_X0_requireExit l p0 x0 (by omega) (by omega)) (va_cwS 2 hts gX0_lead_X0_requireExit rfl rfl rfl (by decide +kernel) ⟨Nat.le_of_ble_eq_true rfl, Nat.le_of_ble_eq_true rfl⟩) k_bl_tt (fun _ _ _ => trivial) rfl hl.1 rfl (Nat.le_of_ble_eq_true rfl) dX0_lead_2 ⟨Nat.zero_le _, Nat.zero_le _⟩ ?_
  refine lv_iload_n hx hb dX0_lead_5 rfl (lv_at hl 3 rfl) ?_
  refine lv_iconst (v := (-1)) hx hb dX0_lead_6 (by decide) ?_
  refine lv_icmp_eq (tgt := 14) hx hb dX0_lead_7 (by decide) (fun c_7 => ?_) (fun c_7 => ?_)
  · refine lv_iload_n hx hb dX0_lead_14 rfl (lv_at hl 1 rfl) ?_
    refine lv_iload_n hx hb dX0_lead_15 rfl (lv_at hl 2 rfl) ?_
    refine k_callSi (As := [.int (nI p0), .int (nI x0)]) (rest := []) ⟨hx, hb, hml, hown, hts⟩ (c_X0_wayOf l p0 x0) (va_cwS 2 hts gX0_lead_X0_wayOf rfl rfl rfl (by decide +kernel) ⟨Nat.le_of_ble_eq_true rfl, Nat.le_of_ble_eq_true rfl⟩) k_bl_tt (fun _ _ _ => trivial) rfl hl.1 rfl (Nat.le_of_ble_eq_true rfl) dX0_lead_16 ⟨Nat.zero_le _, Nat.zero_le _⟩ ?_
    refine lv_istore (lv' := [(4, .int (nI (p0 * 4 + x0))), (0, .ref (q 0)), (1, .int (nI p0)), (2, .int (nI x0)), (3, .int (ix a))]) hx hb dX0_lead_19 hl (by decide) rfl (fun ls hl => ?_)
    refine lv_aload_n hx hb dX0_lead_21 rfl (lv_at hl 1 rfl) ?_
    refine va_get (D := D) (ci := 0) (v := .ref (q 3)) (C := RX0) (T := TX0) (N := 10) hx hb hts hin hown hK hP 0 rfl rfl 2 (by decide) (hts (.fieldLink RX0 16 "SignRail" "leads" "[I") (by decide +kernel)) (fun _ h9 => h9) rfl dX0_lead_22 ?_
    refine lv_iload hx hb dX0_lead_25 (lv_at hl 0 rfl) ?_
    refine n_iald hx hb hK hP 3 0 rfl rfl (k := (p0 * 4 + x0)) (by omega) (Nat.le_of_ble_eq_true rfl) dX0_lead_27 ?_
    refine lv_istore (lv' := [(5, .int (ld (p0 * 4 + x0))), (4, .int (nI (p0 * 4 + x0))), (0, .ref (q 0)), (1, .int (nI p0)), (2, .int (nI x0)), (3, .int (ix a))]) hx hb dX0_lead_28 hl (by decide) rfl (fun ls hl => ?_)
    refine lv_aload_n hx hb dX0_lead_30 rfl (lv_at hl 2 rfl) ?_
    refine va_get (D := D) (ci := 0) (v := .ref (q 3)) (C := RX0) (T := TX0) (N := 10) hx hb hts hin hown hK hP 0 rfl rfl 2 (by decide) (hts (.fieldLink RX0 16 "SignRail" "leads" "[I") (by decide +kernel)) (fun _ h9 => h9) rfl dX0_lead_31 ?_
    refine lv_iload hx hb dX0_lead_34 (lv_at hl 1 rfl) ?_
    refine lv_iload_n hx hb dX0_lead_36 rfl (lv_at hl 5 rfl) ?_
    refine n_iast hx hb hK hP hD hS 3 0 rfl rfl (k := (p0 * 4 + x0)) (by omega) (Nat.le_of_ble_eq_true rfl) dX0_lead_37 (fun H locs hP hD hS => ?_)
    have hP : va_P D vwCl (wx cI q sh sp (upd ld (p0 * 4 + x0) (ix a)) nm tx ds ct co kg ks) H := hP
    have hD : va_D _ (wx cI q sh sp (upd ld (p0 * 4 + x0) (ix a)) nm tx ds ct co kg ks) := hD
    refine lv_aload_n hx hb dX0_lead_38 rfl (lv_at hl 2 rfl) ?_
    refine k_callVW (wr := []) (As := []) (rest := []) ⟨hx, hb, hml, hown, hts⟩ (c_X0_forgetWalks l D cI q sh sp (upd ld (p0 * 4 + x0) (ix a)) nm tx ds ct co kg ks (k_D_tt hD)) (cwV 0 hts gX0_lead_X0_forgetWalks rfl rfl rfl (by decide +kernel) ⟨Nat.le_of_ble_eq_true rfl, Nat.le_of_ble_eq_true rfl⟩) k_B_bl (k_B_of hP hK) (va_recv hK hP (ci := 0) (q0 := 0) rfl rfl) rfl hl.1 rfl (Nat.le_of_ble_eq_true rfl) dX0_lead_39 ⟨Nat.le_of_ble_eq_true rfl, Nat.le_of_ble_eq_true rfl⟩ hP hD hS [] [0, 1, 2, 3, 4, 5, 6, 7, 8] rfl rfl (fun _ => rfl) (fun u_39 H locs hu_39 hP hD hS hsz hkp => ?_)
    have hP : va_P D vwCl (wx cI q sh sp (upd ld (p0 * 4 + x0) (ix a)) nm tx ds ct co (nI 0) ks) H := hP
    have hD : va_D _ (wx cI q sh sp (upd ld (p0 * 4 + x0) (ix a)) nm tx ds ct co (nI 0) ks) := hD
    refine lv_iload hx hb dX0_lead_42 (lv_at hl 0 rfl) ?_
    exact k_wiret (())  hx hb hr hlocks dX0_lead_44 (trivial) rfl hP hS (Nat.le_of_ble_eq_true rfl) (Nat.le_of_ble_eq_true rfl)
  · have ha8 : a < 8 := by have h9 : a ≠ 8 := fun q => c_7 ((ix_m1 ha).mpr q); omega
    refine lv_iload_n hx hb dX0_lead_10 rfl (lv_at hl 3 rfl) ?_
    refine lv_as (y := nI a) (ix_lt ha8) ?_
    refine k_callS0 (As := [.int (nI a)]) (rest := []) ⟨hx, hb, hml, hown, hts⟩ (c_X0_requirePlace l a (by omega)) (va_cwS 1 hts gX0_lead_X0_requirePlace rfl rfl rfl (by decide +kernel) ⟨Nat.le_of_ble_eq_true rfl, Nat.le_of_ble_eq_true rfl⟩) k_bl_tt (fun _ _ _ => trivial) rfl hl.1 rfl (Nat.le_of_ble_eq_true rfl) dX0_lead_11 ⟨Nat.zero_le _, Nat.zero_le _⟩ ?_
    refine lv_iload_n hx hb dX0_lead_14 rfl (lv_at hl 1 rfl) ?_
    refine lv_iload_n hx hb dX0_lead_15 rfl (lv_at hl 2 rfl) ?_
    refine k_callSi (As := [.int (nI p0), .int (nI x0)]) (rest := []) ⟨hx, hb, hml, hown, hts⟩ (c_X0_wayOf l p0 x0) (va_cwS 2 hts gX0_lead_X0_wayOf rfl rfl rfl (by decide +kernel) ⟨Nat.le_of_ble_eq_true rfl, Nat.le_of_ble_eq_true rfl⟩) k_bl_tt (fun _ _ _ => trivial) rfl hl.1 rfl (Nat.le_of_ble_eq_true rfl) dX0_lead_16 ⟨Nat.zero_le _, Nat.zero_le _⟩ ?_
    refine lv_istore (lv' := [(4, .int (nI (p0 * 4 + x0))), (0, .ref (q 0)), (1, .int (nI p0)), (2, .int (nI x0)), (3, .int (ix a))]) hx hb dX0_lead_19 hl (by decide) rfl (fun ls hl => ?_)
    refine lv_aload_n hx hb dX0_lead_21 rfl (lv_at hl 1 rfl) ?_
    refine va_get (D := D) (ci := 0) (v := .ref (q 3)) (C := RX0) (T := TX0) (N := 10) hx hb hts hin hown hK hP 0 rfl rfl 2 (by decide) (hts (.fieldLink RX0 16 "SignRail" "leads" "[I") (by decide +kernel)) (fun _ h9 => h9) rfl dX0_lead_22 ?_
    refine lv_iload hx hb dX0_lead_25 (lv_at hl 0 rfl) ?_
    refine n_iald hx hb hK hP 3 0 rfl rfl (k := (p0 * 4 + x0)) (by omega) (Nat.le_of_ble_eq_true rfl) dX0_lead_27 ?_
    refine lv_istore (lv' := [(5, .int (ld (p0 * 4 + x0))), (4, .int (nI (p0 * 4 + x0))), (0, .ref (q 0)), (1, .int (nI p0)), (2, .int (nI x0)), (3, .int (ix a))]) hx hb dX0_lead_28 hl (by decide) rfl (fun ls hl => ?_)
    refine lv_aload_n hx hb dX0_lead_30 rfl (lv_at hl 2 rfl) ?_
    refine va_get (D := D) (ci := 0) (v := .ref (q 3)) (C := RX0) (T := TX0) (N := 10) hx hb hts hin hown hK hP 0 rfl rfl 2 (by decide) (hts (.fieldLink RX0 16 "SignRail" "leads" "[I") (by decide +kernel)) (fun _ h9 => h9) rfl dX0_lead_31 ?_
    refine lv_iload hx hb dX0_lead_34 (lv_at hl 1 rfl) ?_
    refine lv_iload_n hx hb dX0_lead_36 rfl (lv_at hl 5 rfl) ?_
    refine n_iast hx hb hK hP hD hS 3 0 rfl rfl (k := (p0 * 4 + x0)) (by omega) (Nat.le_of_ble_eq_true rfl) dX0_lead_37 (fun H locs hP hD hS => ?_)
    have hP : va_P D vwCl (wx cI q sh sp (upd ld (p0 * 4 + x0) (ix a)) nm tx ds ct co kg ks) H := hP
    have hD : va_D _ (wx cI q sh sp (upd ld (p0 * 4 + x0) (ix a)) nm tx ds ct co kg ks) := hD
    refine lv_aload_n hx hb dX0_lead_38 rfl (lv_at hl 2 rfl) ?_
    refine k_callVW (wr := []) (As := []) (rest := []) ⟨hx, hb, hml, hown, hts⟩ (c_X0_forgetWalks l D cI q sh sp (upd ld (p0 * 4 + x0) (ix a)) nm tx ds ct co kg ks (k_D_tt hD)) (cwV 0 hts gX0_lead_X0_forgetWalks rfl rfl rfl (by decide +kernel) ⟨Nat.le_of_ble_eq_true rfl, Nat.le_of_ble_eq_true rfl⟩) k_B_bl (k_B_of hP hK) (va_recv hK hP (ci := 0) (q0 := 0) rfl rfl) rfl hl.1 rfl (Nat.le_of_ble_eq_true rfl) dX0_lead_39 ⟨Nat.le_of_ble_eq_true rfl, Nat.le_of_ble_eq_true rfl⟩ hP hD hS [] [0, 1, 2, 3, 4, 5, 6, 7, 8] rfl rfl (fun _ => rfl) (fun u_39 H locs hu_39 hP hD hS hsz hkp => ?_)
    have hP : va_P D vwCl (wx cI q sh sp (upd ld (p0 * 4 + x0) (ix a)) nm tx ds ct co (nI 0) ks) H := hP
    have hD : va_D _ (wx cI q sh sp (upd ld (p0 * 4 + x0) (ix a)) nm tx ds ct co (nI 0) ks) := hD
    refine lv_iload hx hb dX0_lead_42 (lv_at hl 0 rfl) ?_
    exact k_wiret (())  hx hb hr hlocks dX0_lead_44 (trivial) rfl hP hS (Nat.le_of_ble_eq_true rfl) (Nat.le_of_ble_eq_true rfl)
set_option maxHeartbeats 4000000 in
set_option maxRecDepth 100000 in
theorem c_X0_name (l : Launch) (D : va_G) (cI : ClassId) (q : Nat → Nat) (sh sp ld nm tx ds ct : Nat → Int32) (co : Int64) (kg : Int32) (ks : Nat → Int32) (p0 : Nat) (hp : p0 < 8) (t k : Nat) (hk1 : 1 ≤ k) (hk5 : k ≤ 5) (htk : t < 8 ^ k) (hDt : va_D (fun _ => True) (wx cI q sh sp ld nm tx ds ct co kg ks)) : Met l yX0_name wsX0_name ({ frames := 1, cells := 0, slots := 0, locals := 21 } : Room) (k_P [.ref (q 0), .int (nI p0), .int (nI t), .int (nI k)] (k_B D (wx cI q sh sp ld nm tx ds ct co kg ks) [(cI, .int)])) (k_WQ D (wx cI q sh sp ld nm tx ds ct co kg ks) (fun u : Unit => True) (fun u => wx cI q sh sp ld (upd nm p0 (nI (32768 * k + t))) tx ds ct co (nI 0) ks) (fun u => none)) 0 0 (k_A (wx cI q sh sp ld nm tx ds ct co kg ks)) := by
  refine k_head (cc := cX0_name) (maxL := 4) (ret := none) [(0, .ref (q 0)), (1, .int (nI p0)), (2, .int (nI t)), (3, .int (nI k))] (by decide) rfl (Nat.le_of_ble_eq_true rfl) rfl ?_
  intro p e s m below meth c ls hx hb hr hml hown hts hlocks hname hB hl
  have hown : s.vm.findClass RX0 = some m.cls := hown
  obtain ⟨hP, hK⟩ := hB
  have hin : ∀ w ∈ wsX00, w ∈ wsX0_name := fun w h => List.mem_cons_of_mem _ (List.mem_append_left _ (List.mem_append_left _ (List.mem_append_right _ h)))
  have hD := k_A_D hDt
  have hS : va_S (k_A (wx cI q sh sp ld nm tx ds ct co kg ks)) s.heap s.heap [] := va_S.rf
  have hp8 := p8_le hk5
  have ht' : t < 32768 := by omega
  refine lv_iload_n hx hb dX0_name_0 rfl (lv_at hl 1 rfl) ?_
  refine k_callS0 (As := [.int (nI p0)]) (rest := []) ⟨hx, hb, hml, hown, hts⟩ (c_X0_requirePlace l p0 (by omega)) (va_cwS 1 hts gX0_name_X0_requirePlace rfl rfl rfl (by decide +kernel) ⟨Nat.le_of_ble_eq_true rfl, Nat.le_of_ble_eq_true rfl⟩) k_bl_tt (fun _ _ _ => trivial) rfl hl.1 rfl (Nat.le_of_ble_eq_true rfl) dX0_name_1 ⟨Nat.zero_le _, Nat.zero_le _⟩ ?_
  refine lv_iload_n hx hb dX0_name_4 rfl (lv_at hl 2 rfl) ?_
  refine lv_iload_n hx hb dX0_name_5 rfl (lv_at hl 3 rfl) ?_
  refine k_callS0 (As := [.int (nI t), .int (nI k)]) (rest := []) ⟨hx, hb, hml, hown, hts⟩ (c_X0_requireText l t k (by omega) (by omega) (by assumption)) (va_cwS 2 hts gX0_name_X0_requireText rfl rfl rfl (by decide +kernel) ⟨Nat.le_of_ble_eq_true rfl, Nat.le_of_ble_eq_true rfl⟩) k_bl_tt (fun _ _ _ => trivial) rfl hl.1 rfl (Nat.le_of_ble_eq_true rfl) dX0_name_6 ⟨Nat.zero_le _, Nat.zero_le _⟩ ?_
  refine lv_aload_n hx hb dX0_name_9 rfl (lv_at hl 0 rfl) ?_
  refine va_get (D := D) (ci := 0) (v := .ref (q 4)) (C := RX0) (T := TX0) (N := 10) hx hb hts hin hown hK hP 0 rfl rfl 3 (by decide) (hts (.fieldLink RX0 19 "SignRail" "names" "[I") (by decide +kernel)) (fun _ h9 => h9) rfl dX0_name_10 ?_
  refine lv_iload_n hx hb dX0_name_13 rfl (lv_at hl 1 rfl) ?_
  refine lv_iload_n hx hb dX0_name_14 rfl (lv_at hl 2 rfl) ?_
  refine lv_iload_n hx hb dX0_name_15 rfl (lv_at hl 3 rfl) ?_
  refine k_callSi (As := [.int (nI t), .int (nI k)]) (rest := [.int (nI p0), .ref (q 4)]) ⟨hx, hb, hml, hown, hts⟩ (c_X0_pack l t k (by omega) (by omega)) (va_cwS 2 hts gX0_name_X0_pack rfl rfl rfl (by decide +kernel) ⟨Nat.le_of_ble_eq_true rfl, Nat.le_of_ble_eq_true rfl⟩) k_bl_tt (fun _ _ _ => trivial) rfl hl.1 rfl (Nat.le_of_ble_eq_true rfl) dX0_name_16 ⟨Nat.zero_le _, Nat.zero_le _⟩ ?_
  refine n_iast hx hb hK hP hD hS 4 0 rfl rfl (k := p0) (by omega) (Nat.le_of_ble_eq_true rfl) dX0_name_19 (fun H locs hP hD hS => ?_)
  have hP : va_P D vwCl (wx cI q sh sp ld (upd nm p0 (nI (32768 * k + t))) tx ds ct co kg ks) H := hP
  have hD : va_D _ (wx cI q sh sp ld (upd nm p0 (nI (32768 * k + t))) tx ds ct co kg ks) := hD
  refine lv_aload_n hx hb dX0_name_20 rfl (lv_at hl 0 rfl) ?_
  refine k_callVW (wr := []) (As := []) (rest := []) ⟨hx, hb, hml, hown, hts⟩ (c_X0_forgetWalks l D cI q sh sp ld (upd nm p0 (nI (32768 * k + t))) tx ds ct co kg ks (k_D_tt hD)) (cwV 0 hts gX0_name_X0_forgetWalks rfl rfl rfl (by decide +kernel) ⟨Nat.le_of_ble_eq_true rfl, Nat.le_of_ble_eq_true rfl⟩) k_B_bl (k_B_of hP hK) (va_recv hK hP (ci := 0) (q0 := 0) rfl rfl) rfl hl.1 rfl (Nat.le_of_ble_eq_true rfl) dX0_name_21 ⟨Nat.le_of_ble_eq_true rfl, Nat.le_of_ble_eq_true rfl⟩ hP hD hS [] [0, 1, 2, 3, 4, 5, 6, 7, 8] rfl rfl (fun _ => rfl) (fun u_21 H locs hu_21 hP hD hS hsz hkp => ?_)
  have hP : va_P D vwCl (wx cI q sh sp ld (upd nm p0 (nI (32768 * k + t))) tx ds ct co (nI 0) ks) H := hP
  have hD : va_D _ (wx cI q sh sp ld (upd nm p0 (nI (32768 * k + t))) tx ds ct co (nI 0) ks) := hD
  exact k_wvret (())  hx hb hr hlocks dX0_name_24 (trivial) rfl hP hS (Nat.le_of_ble_eq_true rfl) (Nat.le_of_ble_eq_true rfl)
set_option maxHeartbeats 4000000 in
set_option maxRecDepth 100000 in
theorem c_X0_textWidth (l : Launch) (D : va_G) (cI : ClassId) (q : Nat → Nat) (sh sp ld nm tx ds ct : Nat → Int32) (co : Int64) (kg : Int32) (ks : Nat → Int32) (t k : Nat) (hk1 : 1 ≤ k) (hk5 : k ≤ 5) (htk : t < 8 ^ k) : k_M l yX0_textWidth wsX0_textWidth ({ frames := 5, cells := 0, slots := 0, locals := 119 } : Room) [.ref (q 0), .int (nI t), .int (nI k)] (k_B D (wx cI q sh sp ld nm tx ds ct co kg ks) [(cI, .int)]) (some (.int (pwC (wdS sh) sp t k))) := by
  refine k_head (cc := cX0_textWidth) (maxL := 3) (ret := some .int) [(0, .ref (q 0)), (1, .int (nI t)), (2, .int (nI k))] (by decide) rfl (Nat.le_of_ble_eq_true rfl) rfl ?_
  intro p e s m below meth c ls hx hb hr hml hown hts hlocks hname hB hl
  have hown : s.vm.findClass RX0 = some m.cls := hown
  obtain ⟨hP, hK⟩ := hB
  have hin : ∀ w ∈ wsX00, w ∈ wsX0_textWidth := fun w h => List.mem_cons_of_mem _ (List.mem_append_left _ (List.mem_append_right _ h))
  have hp8 := p8_le hk5
  have ht' : t < 32768 := by omega
  refine lv_iload_n hx hb dX0_textWidth_0 rfl (lv_at hl 1 rfl) ?_
  refine lv_iload_n hx hb dX0_textWidth_1 rfl (lv_at hl 2 rfl) ?_
  refine k_callS0 (As := [.int (nI t), .int (nI k)]) (rest := []) ⟨hx, hb, hml, hown, hts⟩ (c_X0_requireText l t k (by omega) (by omega) (by assumption)) (va_cwS 2 hts gX0_textWidth_X0_requireText rfl rfl rfl (by decide +kernel) ⟨Nat.le_of_ble_eq_true rfl, Nat.le_of_ble_eq_true rfl⟩) k_bl_tt (fun _ _ _ => trivial) rfl hl.1 rfl (Nat.le_of_ble_eq_true rfl) dX0_textWidth_2 ⟨Nat.zero_le _, Nat.zero_le _⟩ ?_
  refine lv_aload_n hx hb dX0_textWidth_5 rfl (lv_at hl 0 rfl) ?_
  refine lv_iload_n hx hb dX0_textWidth_6 rfl (lv_at hl 1 rfl) ?_
  refine lv_iload_n hx hb dX0_textWidth_7 rfl (lv_at hl 2 rfl) ?_
  refine k_callSi (As := [.int (nI t), .int (nI k)]) (rest := [.ref (q 0)]) ⟨hx, hb, hml, hown, hts⟩ (c_X0_pack l t k (by omega) (by omega)) (va_cwS 2 hts gX0_textWidth_X0_pack rfl rfl rfl (by decide +kernel) ⟨Nat.le_of_ble_eq_true rfl, Nat.le_of_ble_eq_true rfl⟩) k_bl_tt (fun _ _ _ => trivial) rfl hl.1 rfl (Nat.le_of_ble_eq_true rfl) dX0_textWidth_8 ⟨Nat.zero_le _, Nat.zero_le _⟩ ?_
  refine k_callVi (As := [.int (nI (32768 * k + t))]) (rest := []) ⟨hx, hb, hml, hown, hts⟩ (c_X0_packedWidth l D cI q sh sp ld nm tx ds ct co kg ks t k (by omega) (by omega)) (cwV 1 hts gX0_textWidth_X0_packedWidth rfl rfl rfl (by decide +kernel) ⟨Nat.le_of_ble_eq_true rfl, Nat.le_of_ble_eq_true rfl⟩) k_B_bl (k_B_of hP hK) (va_recv hK hP (ci := 0) (q0 := 0) rfl rfl) rfl hl.1 rfl (Nat.le_of_ble_eq_true rfl) dX0_textWidth_11 ⟨Nat.zero_le _, Nat.zero_le _⟩ ?_
  exact k_iret hx hb hr hlocks dX0_textWidth_14 (rfl)
set_option maxHeartbeats 4000000 in
set_option maxRecDepth 100000 in
theorem c_X0_cut (l : Launch) (D : va_G) (cI : ClassId) (q : Nat → Nat) (sh sp ld nm tx ds ct : Nat → Int32) (co : Int64) (kg : Int32) (ks : Nat → Int32) (p0 x0 : Nat) (hp : p0 < 8) (hx0 : x0 < 4) (t k : Nat) (hk1 : 1 ≤ k) (hk5 : k ≤ 5) (htk : t < 8 ^ k) (d0 : Nat) (hd : d0 < 10) (hpl : plF (pwC (wdS sh) sp t k) ≠ -1) (hDt : va_D (fun _ => True) (wx cI q sh sp ld nm tx ds ct co kg ks)) : Met l yX0_cut wsX0_cut ({ frames := 6, cells := 0, slots := 0, locals := 141 } : Room) (k_P [.ref (q 0), .int (nI p0), .int (nI x0), .int (nI t), .int (nI k), .int (nI d0)] (k_B D (wx cI q sh sp ld nm tx ds ct co kg ks) [(cI, .int)])) (k_WQ D (wx cI q sh sp ld nm tx ds ct co kg ks) (fun u : Unit => True) (fun u => wx cI q sh sp ld nm (upd tx (p0 * 4 + x0) (nI (32768 * k + t))) (upd ds (p0 * 4 + x0) (nI d0)) (engF sh ct (p0 * 4 + x0) t k) (co + (plF (pwC (wdS sh) sp t k)).toInt64) (nI 0) ks) (fun u => some (.int (plF (pwC (wdS sh) sp t k))))) 0 0 (k_A (wx cI q sh sp ld nm tx ds ct co kg ks)) := by
  refine k_head (cc := cX0_cut) (maxL := 9) (ret := (some .int)) [(0, .ref (q 0)), (1, .int (nI p0)), (2, .int (nI x0)), (3, .int (nI t)), (4, .int (nI k)), (5, .int (nI d0))] (by decide) rfl (Nat.le_of_ble_eq_true rfl) rfl ?_
  intro p e s m below meth c ls hx hb hr hml hown hts hlocks hname hB hl
  have hown : s.vm.findClass RX0 = some m.cls := hown
  obtain ⟨hP, hK⟩ := hB
  have hin : ∀ w ∈ wsX00, w ∈ wsX0_cut := fun w h => List.mem_cons_of_mem _ (List.mem_append_left _ (List.mem_append_left _ (List.mem_append_left _ (List.mem_append_right _ h))))
  have hD := k_A_D hDt
  have hS : va_S (k_A (wx cI q sh sp ld nm tx ds ct co kg ks)) s.heap s.heap [] := va_S.rf
  have hp8 := p8_le hk5
  have ht' : t < 32768 := by omega
  refine lv_iload_n hx hb dX0_cut_0 rfl (lv_at hl 1 rfl) ?_
  refine lv_iload_n hx hb dX0_cut_1 rfl (lv_at hl 2 rfl) ?_
  refine k_callS0 (As := [.int (nI p0), .int (nI x0)]) (rest := []) ⟨hx, hb, hml, hown, hts⟩ (c_X0_requireExit l p0 x0 (by omega) (by omega)) (va_cwS 2 hts gX0_cut_X0_requireExit rfl rfl rfl (by decide +kernel) ⟨Nat.le_of_ble_eq_true rfl, Nat.le_of_ble_eq_true rfl⟩) k_bl_tt (fun _ _ _ => trivial) rfl hl.1 rfl (Nat.le_of_ble_eq_true rfl) dX0_cut_2 ⟨Nat.zero_le _, Nat.zero_le _⟩ ?_
  refine lv_iload_n hx hb dX0_cut_5 rfl (lv_at hl 3 rfl) ?_
  refine lv_iload hx hb dX0_cut_6 (lv_at hl 4 rfl) ?_
  refine k_callS0 (As := [.int (nI t), .int (nI k)]) (rest := []) ⟨hx, hb, hml, hown, hts⟩ (c_X0_requireText l t k (by omega) (by omega) (by assumption)) (va_cwS 2 hts gX0_cut_X0_requireText rfl rfl rfl (by decide +kernel) ⟨Nat.le_of_ble_eq_true rfl, Nat.le_of_ble_eq_true rfl⟩) k_bl_tt (fun _ _ _ => trivial) rfl hl.1 rfl (Nat.le_of_ble_eq_true rfl) dX0_cut_8 ⟨Nat.zero_le _, Nat.zero_le _⟩ ?_
  refine lv_iload hx hb dX0_cut_11 (lv_at hl 5 rfl) ?_
  refine n_if_lt (tgt := 23) hx hb dX0_cut_13 (by decide) (by omega) ?_
  refine lv_iload hx hb dX0_cut_16 (lv_at hl 5 rfl) ?_
  refine lv_bipush (v := nI 9) hx hb dX0_cut_18 (by decide) ?_
  refine n_icmp_le (tgt := 33) hx hb dX0_cut_20 (by decide) (by omega) (by omega) (fun c_20 => ?_) (fun c_20 => ?_)
  · refine lv_iload_n hx hb dX0_cut_33 rfl (lv_at hl 3 rfl) ?_
    refine lv_iload hx hb dX0_cut_34 (lv_at hl 4 rfl) ?_
    refine k_callSi (As := [.int (nI t), .int (nI k)]) (rest := []) ⟨hx, hb, hml, hown, hts⟩ (c_X0_pack l t k (by omega) (by omega)) (va_cwS 2 hts gX0_cut_X0_pack rfl rfl rfl (by decide +kernel) ⟨Nat.le_of_ble_eq_true rfl, Nat.le_of_ble_eq_true rfl⟩) k_bl_tt (fun _ _ _ => trivial) rfl hl.1 rfl (Nat.le_of_ble_eq_true rfl) dX0_cut_36 ⟨Nat.zero_le _, Nat.zero_le _⟩ ?_
    refine lv_istore (lv' := [(6, .int (nI (32768 * k + t))), (0, .ref (q 0)), (1, .int (nI p0)), (2, .int (nI x0)), (3, .int (nI t)), (4, .int (nI k)), (5, .int (nI d0))]) hx hb dX0_cut_39 hl (by decide) rfl (fun ls hl => ?_)
    refine lv_aload_n hx hb dX0_cut_41 rfl (lv_at hl 1 rfl) ?_
    refine lv_iload hx hb dX0_cut_42 (lv_at hl 0 rfl) ?_
    refine k_callVi (As := [.int (nI (32768 * k + t))]) (rest := []) ⟨hx, hb, hml, hown, hts⟩ (c_X0_plateFor l D cI q sh sp ld nm tx ds ct co kg ks t k (by omega) (by omega)) (cwV 1 hts gX0_cut_X0_plateFor rfl rfl rfl (by decide +kernel) ⟨Nat.le_of_ble_eq_true rfl, Nat.le_of_ble_eq_true rfl⟩) k_B_bl (k_B_of hP hK) (va_recv hK hP (ci := 0) (q0 := 0) rfl rfl) rfl hl.1 rfl (Nat.le_of_ble_eq_true rfl) dX0_cut_44 ⟨Nat.zero_le _, Nat.zero_le _⟩ ?_
    refine lv_istore (lv' := [(7, .int (plF (pwC (wdS sh) sp t k))), (6, .int (nI (32768 * k + t))), (0, .ref (q 0)), (1, .int (nI p0)), (2, .int (nI x0)), (3, .int (nI t)), (4, .int (nI k)), (5, .int (nI d0))]) hx hb dX0_cut_47 hl (by decide) rfl (fun ls hl => ?_)
    refine lv_iload hx hb dX0_cut_49 (lv_at hl 0 rfl) ?_
    refine lv_iconst (v := (-1)) hx hb dX0_cut_51 (by decide) ?_
    refine lv_icmp_ne (tgt := 65) hx hb dX0_cut_52 (by decide) (fun c_52 => ?_) (fun c_52 => ?_)
    · refine lv_iload_n hx hb dX0_cut_65 rfl (lv_at hl 3 rfl) ?_
      refine lv_iload_n hx hb dX0_cut_66 rfl (lv_at hl 4 rfl) ?_
      refine k_callSi (As := [.int (nI p0), .int (nI x0)]) (rest := []) ⟨hx, hb, hml, hown, hts⟩ (c_X0_wayOf l p0 x0) (va_cwS 2 hts gX0_cut_X0_wayOf rfl rfl rfl (by decide +kernel) ⟨Nat.le_of_ble_eq_true rfl, Nat.le_of_ble_eq_true rfl⟩) k_bl_tt (fun _ _ _ => trivial) rfl hl.1 rfl (Nat.le_of_ble_eq_true rfl) dX0_cut_67 ⟨Nat.zero_le _, Nat.zero_le _⟩ ?_
      refine lv_istore (lv' := [(8, .int (nI (p0 * 4 + x0))), (7, .int (plF (pwC (wdS sh) sp t k))), (6, .int (nI (32768 * k + t))), (0, .ref (q 0)), (1, .int (nI p0)), (2, .int (nI x0)), (3, .int (nI t)), (4, .int (nI k)), (5, .int (nI d0))]) hx hb dX0_cut_70 hl (by decide) rfl (fun ls hl => ?_)
      refine lv_aload_n hx hb dX0_cut_72 rfl (lv_at hl 3 rfl) ?_
      refine va_get (D := D) (ci := 0) (v := .ref (q 5)) (C := RX0) (T := TX0) (N := 10) hx hb hts hin hown hK hP 0 rfl rfl 4 (by decide) (hts (.fieldLink RX0 22 "SignRail" "signTexts" "[I") (by decide +kernel)) (fun _ h9 => h9) rfl dX0_cut_73 ?_
      refine lv_iload hx hb dX0_cut_76 (lv_at hl 0 rfl) ?_
      refine lv_iload hx hb dX0_cut_78 (lv_at hl 2 rfl) ?_
      refine n_iast hx hb hK hP hD hS 5 0 rfl rfl (k := (p0 * 4 + x0)) (by omega) (Nat.le_of_ble_eq_true rfl) dX0_cut_80 (fun H locs hP hD hS => ?_)
      have hP : va_P D vwCl (wx cI q sh sp ld nm (upd tx (p0 * 4 + x0) (nI (32768 * k + t))) ds ct co kg ks) H := hP
      have hD : va_D _ (wx cI q sh sp ld nm (upd tx (p0 * 4 + x0) (nI (32768 * k + t))) ds ct co kg ks) := hD
      refine lv_aload_n hx hb dX0_cut_81 rfl (lv_at hl 3 rfl) ?_
      refine va_get (D := D) (ci := 0) (v := .ref (q 6)) (C := RX0) (T := TX0) (N := 10) hx hb hts hin hown hK hP 0 rfl rfl 5 (by decide) (hts (.fieldLink RX0 25 "SignRail" "signDistances" "[I") (by decide +kernel)) (fun _ h9 => h9) rfl dX0_cut_82 ?_
      refine lv_iload hx hb dX0_cut_85 (lv_at hl 0 rfl) ?_
      refine lv_iload hx hb dX0_cut_87 (lv_at hl 8 rfl) ?_
      refine n_iast hx hb hK hP hD hS 6 0 rfl rfl (k := (p0 * 4 + x0)) (by omega) (Nat.le_of_ble_eq_true rfl) dX0_cut_89 (fun H locs hP hD hS => ?_)
      have hP : va_P D vwCl (wx cI q sh sp ld nm (upd tx (p0 * 4 + x0) (nI (32768 * k + t))) (upd ds (p0 * 4 + x0) (nI d0)) ct co kg ks) H := hP
      have hD : va_D _ (wx cI q sh sp ld nm (upd tx (p0 * 4 + x0) (nI (32768 * k + t))) (upd ds (p0 * 4 + x0) (nI d0)) ct co kg ks) := hD
      refine lv_aload_n hx hb dX0_cut_90 rfl (lv_at hl 3 rfl) ?_
      refine lv_iload hx hb dX0_cut_91 (lv_at hl 0 rfl) ?_
      refine lv_iload hx hb dX0_cut_93 (lv_at hl 1 rfl) ?_
      refine k_callVW (wr := []) (As := [.int (nI (p0 * 4 + x0)), .int (plF (pwC (wdS sh) sp t k))]) (rest := []) ⟨hx, hb, hml, hown, hts⟩ (c_X0_engrave l D cI q sh sp ld nm (upd tx (p0 * 4 + x0) (nI (32768 * k + t))) (upd ds (p0 * 4 + x0) (nI d0)) ct co kg ks (p0 * 4 + x0) t k (by omega) (by omega) hk5 pk_us (plF (pwC (wdS sh) sp t k)) (k_D_tt hD)) (cwV 2 hts gX0_cut_X0_engrave rfl rfl rfl (by decide +kernel) ⟨Nat.le_of_ble_eq_true rfl, Nat.le_of_ble_eq_true rfl⟩) k_B_bl (k_B_of hP hK) (va_recv hK hP (ci := 0) (q0 := 0) rfl rfl) rfl hl.1 rfl (Nat.le_of_ble_eq_true rfl) dX0_cut_95 ⟨Nat.le_of_ble_eq_true rfl, Nat.le_of_ble_eq_true rfl⟩ hP hD hS [] [0, 1, 2, 3, 4, 5, 6, 7, 8] rfl rfl (fun _ => rfl) (fun u_95 H locs hu_95 hP hD hS hsz hkp => ?_)
      have hP : va_P D vwCl (wx cI q sh sp ld nm (upd tx (p0 * 4 + x0) (nI (32768 * k + t))) (upd ds (p0 * 4 + x0) (nI d0)) (engF sh ct (p0 * 4 + x0) t k) (co + (plF (pwC (wdS sh) sp t k)).toInt64) kg ks) H := hP
      have hD : va_D _ (wx cI q sh sp ld nm (upd tx (p0 * 4 + x0) (nI (32768 * k + t))) (upd ds (p0 * 4 + x0) (nI d0)) (engF sh ct (p0 * 4 + x0) t k) (co + (plF (pwC (wdS sh) sp t k)).toInt64) kg ks) := hD
      refine lv_aload_n hx hb dX0_cut_98 rfl (lv_at hl 3 rfl) ?_
      refine k_callVW (wr := []) (As := []) (rest := []) ⟨hx, hb, hml, hown, hts⟩ (c_X0_forgetWalks l D cI q sh sp ld nm (upd tx (p0 * 4 + x0) (nI (32768 * k + t))) (upd ds (p0 * 4 + x0) (nI d0)) (engF sh ct (p0 * 4 + x0) t k) (co + (plF (pwC (wdS sh) sp t k)).toInt64) kg ks (k_D_tt hD)) (cwV 0 hts gX0_cut_X0_forgetWalks rfl rfl rfl (by decide +kernel) ⟨Nat.le_of_ble_eq_true rfl, Nat.le_of_ble_eq_true rfl⟩) k_B_bl (k_B_of hP hK) (va_recv hK hP (ci := 0) (q0 := 0) rfl rfl) rfl hl.1 rfl (Nat.le_of_ble_eq_true rfl) dX0_cut_99 ⟨Nat.le_of_ble_eq_true rfl, Nat.le_of_ble_eq_true rfl⟩ hP hD hS [] [0, 1, 2, 3, 4, 5, 6, 7, 8] rfl rfl (fun _ => rfl) (fun u_99 H locs hu_99 hP hD hS hsz hkp => ?_)
      have hP : va_P D vwCl (wx cI q sh sp ld nm (upd tx (p0 * 4 + x0) (nI (32768 * k + t))) (upd ds (p0 * 4 + x0) (nI d0)) (engF sh ct (p0 * 4 + x0) t k) (co + (plF (pwC (wdS sh) sp t k)).toInt64) (nI 0) ks) H := hP
      have hD : va_D _ (wx cI q sh sp ld nm (upd tx (p0 * 4 + x0) (nI (32768 * k + t))) (upd ds (p0 * 4 + x0) (nI d0)) (engF sh ct (p0 * 4 + x0) t k) (co + (plF (pwC (wdS sh) sp t k)).toInt64) (nI 0) ks) := hD
      refine lv_iload hx hb dX0_cut_102 (lv_at hl 1 rfl) ?_
      exact k_wiret (())  hx hb hr hlocks dX0_cut_104 (trivial) rfl hP hS (Nat.le_of_ble_eq_true rfl) (Nat.le_of_ble_eq_true rfl)
    · exact absurd c_52 hpl
  · exact absurd hd (by omega)
set_option maxHeartbeats 4000000 in
set_option maxRecDepth 100000 in
theorem c_X0_remove (l : Launch) (D : va_G) (cI : ClassId) (q : Nat → Nat) (sh sp ld nm tx ds ct : Nat → Int32) (co : Int64) (kg : Int32) (ks : Nat → Int32) (p0 x0 : Nat) (hp : p0 < 8) (hx0 : x0 < 4) (hDt : va_D (fun _ => True) (wx cI q sh sp ld nm tx ds ct co kg ks)) : Met l yX0_remove wsX0_remove ({ frames := 2, cells := 0, slots := 0, locals := 41 } : Room) (k_P [.ref (q 0), .int (nI p0), .int (nI x0)] (k_B D (wx cI q sh sp ld nm tx ds ct co kg ks) [(cI, .int)])) (k_WQ D (wx cI q sh sp ld nm tx ds ct co kg ks) (fun u : Unit => True) (fun u => wx cI q sh sp ld nm (upd tx (p0 * 4 + x0) (nI 0)) ds ct co (nI 0) ks) (fun u => some (.int (bI (!decide (tx (p0 * 4 + x0) = 0)))))) 0 0 (k_A (wx cI q sh sp ld nm tx ds ct co kg ks)) := by
  refine k_head (cc := cX0_remove) (maxL := 5) (ret := (some .boolean)) [(0, .ref (q 0)), (1, .int (nI p0)), (2, .int (nI x0))] (by decide) rfl (Nat.le_of_ble_eq_true rfl) rfl ?_
  intro p e s m below meth c ls hx hb hr hml hown hts hlocks hname hB hl
  have hown : s.vm.findClass RX0 = some m.cls := hown
  obtain ⟨hP, hK⟩ := hB
  have hin : ∀ w ∈ wsX00, w ∈ wsX0_remove := fun w h => List.mem_cons_of_mem _ (List.mem_append_left _ (List.mem_append_right _ h))
  have hD := k_A_D hDt
  have hS : va_S (k_A (wx cI q sh sp ld nm tx ds ct co kg ks)) s.heap s.heap [] := va_S.rf
  refine lv_iload_n hx hb dX0_remove_0 rfl (lv_at hl 1 rfl) ?_
  refine lv_iload_n hx hb dX0_remove_1 rfl (lv_at hl 2 rfl) ?_
  refine k_callS0 (As := [.int (nI p0), .int (nI x0)]) (rest := []) ⟨hx, hb, hml, hown, hts⟩ (c_X0_requireExit l p0 x0 (by omega) (by omega)) (va_cwS 2 hts gX0_remove_X0_requireExit rfl rfl rfl (by decide +kernel) ⟨Nat.le_of_ble_eq_true rfl, Nat.le_of_ble_eq_true rfl⟩) k_bl_tt (fun _ _ _ => trivial) rfl hl.1 rfl (Nat.le_of_ble_eq_true rfl) dX0_remove_2 ⟨Nat.zero_le _, Nat.zero_le _⟩ ?_
  refine lv_iload_n hx hb dX0_remove_5 rfl (lv_at hl 1 rfl) ?_
  refine lv_iload_n hx hb dX0_remove_6 rfl (lv_at hl 2 rfl) ?_
  refine k_callSi (As := [.int (nI p0), .int (nI x0)]) (rest := []) ⟨hx, hb, hml, hown, hts⟩ (c_X0_wayOf l p0 x0) (va_cwS 2 hts gX0_remove_X0_wayOf rfl rfl rfl (by decide +kernel) ⟨Nat.le_of_ble_eq_true rfl, Nat.le_of_ble_eq_true rfl⟩) k_bl_tt (fun _ _ _ => trivial) rfl hl.1 rfl (Nat.le_of_ble_eq_true rfl) dX0_remove_7 ⟨Nat.zero_le _, Nat.zero_le _⟩ ?_
  refine lv_istore_n (lv' := [(3, .int (nI (p0 * 4 + x0))), (0, .ref (q 0)), (1, .int (nI p0)), (2, .int (nI x0))]) hx hb dX0_remove_10 rfl hl (by decide) rfl (fun ls hl => ?_)
  refine lv_aload_n hx hb dX0_remove_11 rfl (lv_at hl 1 rfl) ?_
  refine va_get (D := D) (ci := 0) (v := .ref (q 5)) (C := RX0) (T := TX0) (N := 10) hx hb hts hin hown hK hP 0 rfl rfl 4 (by decide) (hts (.fieldLink RX0 22 "SignRail" "signTexts" "[I") (by decide +kernel)) (fun _ h9 => h9) rfl dX0_remove_12 ?_
  refine lv_iload_n hx hb dX0_remove_15 rfl (lv_at hl 0 rfl) ?_
  refine n_iald hx hb hK hP 5 0 rfl rfl (k := (p0 * 4 + x0)) (by omega) (Nat.le_of_ble_eq_true rfl) dX0_remove_16 ?_
  refine lv_if_eq (tgt := 24) hx hb dX0_remove_17 (by decide) (fun c_17 => ?_) (fun c_17 => ?_)
  · refine lv_iconst (v := nI 0) hx hb dX0_remove_24 (by decide) ?_
    refine lv_as (y := bI (!decide (tx (p0 * 4 + x0) = 0))) (by rw [decide_eq_true c_17]; rfl) ?_
    refine lv_istore (lv' := [(4, .int (bI (!decide (tx (p0 * 4 + x0) = 0)))), (3, .int (nI (p0 * 4 + x0))), (0, .ref (q 0)), (1, .int (nI p0)), (2, .int (nI x0))]) hx hb dX0_remove_25 hl (by decide) rfl (fun ls hl => ?_)
    refine lv_aload_n hx hb dX0_remove_27 rfl (lv_at hl 2 rfl) ?_
    refine va_get (D := D) (ci := 0) (v := .ref (q 5)) (C := RX0) (T := TX0) (N := 10) hx hb hts hin hown hK hP 0 rfl rfl 4 (by decide) (hts (.fieldLink RX0 22 "SignRail" "signTexts" "[I") (by decide +kernel)) (fun _ h9 => h9) rfl dX0_remove_28 ?_
    refine lv_iload_n hx hb dX0_remove_31 rfl (lv_at hl 1 rfl) ?_
    refine lv_iconst (v := nI 0) hx hb dX0_remove_32 (by decide) ?_
    refine n_iast hx hb hK hP hD hS 5 0 rfl rfl (k := (p0 * 4 + x0)) (by omega) (Nat.le_of_ble_eq_true rfl) dX0_remove_33 (fun H locs hP hD hS => ?_)
    have hP : va_P D vwCl (wx cI q sh sp ld nm (upd tx (p0 * 4 + x0) (nI 0)) ds ct co kg ks) H := hP
    have hD : va_D _ (wx cI q sh sp ld nm (upd tx (p0 * 4 + x0) (nI 0)) ds ct co kg ks) := hD
    refine lv_aload_n hx hb dX0_remove_34 rfl (lv_at hl 2 rfl) ?_
    refine k_callVW (wr := []) (As := []) (rest := []) ⟨hx, hb, hml, hown, hts⟩ (c_X0_forgetWalks l D cI q sh sp ld nm (upd tx (p0 * 4 + x0) (nI 0)) ds ct co kg ks (k_D_tt hD)) (cwV 0 hts gX0_remove_X0_forgetWalks rfl rfl rfl (by decide +kernel) ⟨Nat.le_of_ble_eq_true rfl, Nat.le_of_ble_eq_true rfl⟩) k_B_bl (k_B_of hP hK) (va_recv hK hP (ci := 0) (q0 := 0) rfl rfl) rfl hl.1 rfl (Nat.le_of_ble_eq_true rfl) dX0_remove_35 ⟨Nat.le_of_ble_eq_true rfl, Nat.le_of_ble_eq_true rfl⟩ hP hD hS [] [0, 1, 2, 3, 4, 5, 6, 7, 8] rfl rfl (fun _ => rfl) (fun u_35 H locs hu_35 hP hD hS hsz hkp => ?_)
    have hP : va_P D vwCl (wx cI q sh sp ld nm (upd tx (p0 * 4 + x0) (nI 0)) ds ct co (nI 0) ks) H := hP
    have hD : va_D _ (wx cI q sh sp ld nm (upd tx (p0 * 4 + x0) (nI 0)) ds ct co (nI 0) ks) := hD
    refine lv_iload hx hb dX0_remove_38 (lv_at hl 0 rfl) ?_
    exact k_wzret (()) (!decide (tx (p0 * 4 + x0) = 0)) hx hb hr hlocks dX0_remove_40 (rfl) (trivial) rfl hP hS (Nat.le_of_ble_eq_true rfl) (Nat.le_of_ble_eq_true rfl)
  · refine lv_iconst (v := nI 1) hx hb dX0_remove_20 (by decide) ?_
    refine lv_as (y := bI (!decide (tx (p0 * 4 + x0) = 0))) (by rw [decide_eq_false c_17]; rfl) ?_
    refine lv_goto (tgt := 25) hx hb dX0_remove_21 (by decide) ?_
    refine lv_istore (lv' := [(4, .int (bI (!decide (tx (p0 * 4 + x0) = 0)))), (3, .int (nI (p0 * 4 + x0))), (0, .ref (q 0)), (1, .int (nI p0)), (2, .int (nI x0))]) hx hb dX0_remove_25 hl (by decide) rfl (fun ls hl => ?_)
    refine lv_aload_n hx hb dX0_remove_27 rfl (lv_at hl 2 rfl) ?_
    refine va_get (D := D) (ci := 0) (v := .ref (q 5)) (C := RX0) (T := TX0) (N := 10) hx hb hts hin hown hK hP 0 rfl rfl 4 (by decide) (hts (.fieldLink RX0 22 "SignRail" "signTexts" "[I") (by decide +kernel)) (fun _ h9 => h9) rfl dX0_remove_28 ?_
    refine lv_iload_n hx hb dX0_remove_31 rfl (lv_at hl 1 rfl) ?_
    refine lv_iconst (v := nI 0) hx hb dX0_remove_32 (by decide) ?_
    refine n_iast hx hb hK hP hD hS 5 0 rfl rfl (k := (p0 * 4 + x0)) (by omega) (Nat.le_of_ble_eq_true rfl) dX0_remove_33 (fun H locs hP hD hS => ?_)
    have hP : va_P D vwCl (wx cI q sh sp ld nm (upd tx (p0 * 4 + x0) (nI 0)) ds ct co kg ks) H := hP
    have hD : va_D _ (wx cI q sh sp ld nm (upd tx (p0 * 4 + x0) (nI 0)) ds ct co kg ks) := hD
    refine lv_aload_n hx hb dX0_remove_34 rfl (lv_at hl 2 rfl) ?_
    refine k_callVW (wr := []) (As := []) (rest := []) ⟨hx, hb, hml, hown, hts⟩ (c_X0_forgetWalks l D cI q sh sp ld nm (upd tx (p0 * 4 + x0) (nI 0)) ds ct co kg ks (k_D_tt hD)) (cwV 0 hts gX0_remove_X0_forgetWalks rfl rfl rfl (by decide +kernel) ⟨Nat.le_of_ble_eq_true rfl, Nat.le_of_ble_eq_true rfl⟩) k_B_bl (k_B_of hP hK) (va_recv hK hP (ci := 0) (q0 := 0) rfl rfl) rfl hl.1 rfl (Nat.le_of_ble_eq_true rfl) dX0_remove_35 ⟨Nat.le_of_ble_eq_true rfl, Nat.le_of_ble_eq_true rfl⟩ hP hD hS [] [0, 1, 2, 3, 4, 5, 6, 7, 8] rfl rfl (fun _ => rfl) (fun u_35 H locs hu_35 hP hD hS hsz hkp => ?_)
    have hP : va_P D vwCl (wx cI q sh sp ld nm (upd tx (p0 * 4 + x0) (nI 0)) ds ct co (nI 0) ks) H := hP
    have hD : va_D _ (wx cI q sh sp ld nm (upd tx (p0 * 4 + x0) (nI 0)) ds ct co (nI 0) ks) := hD
    refine lv_iload hx hb dX0_remove_38 (lv_at hl 0 rfl) ?_
    exact k_wzret (()) (!decide (tx (p0 * 4 + x0) = 0)) hx hb hr hlocks dX0_remove_40 (rfl) (trivial) rfl hP hS (Nat.le_of_ble_eq_true rfl) (Nat.le_of_ble_eq_true rfl)
set_option maxHeartbeats 4000000 in
set_option maxRecDepth 100000 in
theorem c_X0_isOld (l : Launch) (D : va_G) (cI : ClassId) (q : Nat → Nat) (sh sp ld nm tx ds ct : Nat → Int32) (co : Int64) (kg : Int32) (ks : Nat → Int32) (p0 x0 : Nat) (hp : p0 < 8) (hx0 : x0 < 4) (T K : Nat → Nat) (hG : ∀ w, w < 32 → T w < 32768 ∧ K w ≤ 5 ∧ tx w = nI (32768 * K w + T w) ∧ ∀ j, j < K w → S25 (ct (w * 5 + j))) : k_M l yX0_isOld wsX0_isOld ({ frames := 2, cells := 0, slots := 0, locals := 44 } : Room) [.ref (q 0), .int (nI p0), .int (nI x0)] (k_B D (wx cI q sh sp ld nm tx ds ct co kg ks) [(cI, .int)]) (some (.int (bI (anyB (oldC sh ct (p0 * 4 + x0) (T (p0 * 4 + x0))) (K (p0 * 4 + x0)))))) := by
  refine k_head (cc := cX0_isOld) (maxL := 3) (ret := some .boolean) [(0, .ref (q 0)), (1, .int (nI p0)), (2, .int (nI x0))] (by decide) rfl (Nat.le_of_ble_eq_true rfl) rfl ?_
  intro p e s m below meth c ls hx hb hr hml hown hts hlocks hname hB hl
  have hown : s.vm.findClass RX0 = some m.cls := hown
  obtain ⟨hP, hK⟩ := hB
  have hin : ∀ w ∈ wsX00, w ∈ wsX0_isOld := fun w h => List.mem_cons_of_mem _ (List.mem_append_left _ (List.mem_append_right _ h))
  refine lv_iload_n hx hb dX0_isOld_0 rfl (lv_at hl 1 rfl) ?_
  refine lv_iload_n hx hb dX0_isOld_1 rfl (lv_at hl 2 rfl) ?_
  refine k_callS0 (As := [.int (nI p0), .int (nI x0)]) (rest := []) ⟨hx, hb, hml, hown, hts⟩ (c_X0_requireExit l p0 x0 (by omega) (by omega)) (va_cwS 2 hts gX0_isOld_X0_requireExit rfl rfl rfl (by decide +kernel) ⟨Nat.le_of_ble_eq_true rfl, Nat.le_of_ble_eq_true rfl⟩) k_bl_tt (fun _ _ _ => trivial) rfl hl.1 rfl (Nat.le_of_ble_eq_true rfl) dX0_isOld_2 ⟨Nat.zero_le _, Nat.zero_le _⟩ ?_
  refine lv_aload_n hx hb dX0_isOld_5 rfl (lv_at hl 0 rfl) ?_
  refine lv_iload_n hx hb dX0_isOld_6 rfl (lv_at hl 1 rfl) ?_
  refine lv_iload_n hx hb dX0_isOld_7 rfl (lv_at hl 2 rfl) ?_
  refine k_callSi (As := [.int (nI p0), .int (nI x0)]) (rest := [.ref (q 0)]) ⟨hx, hb, hml, hown, hts⟩ (c_X0_wayOf l p0 x0) (va_cwS 2 hts gX0_isOld_X0_wayOf rfl rfl rfl (by decide +kernel) ⟨Nat.le_of_ble_eq_true rfl, Nat.le_of_ble_eq_true rfl⟩) k_bl_tt (fun _ _ _ => trivial) rfl hl.1 rfl (Nat.le_of_ble_eq_true rfl) dX0_isOld_8 ⟨Nat.zero_le _, Nat.zero_le _⟩ ?_
  refine k_callVi (As := [.int (nI (p0 * 4 + x0))]) (rest := []) ⟨hx, hb, hml, hown, hts⟩ (c_X0_isOutdated l D cI q sh sp ld nm tx ds ct co kg ks (p0 * 4 + x0) (T (p0 * 4 + x0)) (K (p0 * 4 + x0)) (by omega) (hG _ (by omega)).1 (hG _ (by omega)).2.1 (hG _ (by omega)).2.2.1) (cwV 1 hts gX0_isOld_X0_isOutdated rfl rfl rfl (by decide +kernel) ⟨Nat.le_of_ble_eq_true rfl, Nat.le_of_ble_eq_true rfl⟩) k_B_bl (k_B_of hP hK) (va_recv hK hP (ci := 0) (q0 := 0) rfl rfl) rfl hl.1 rfl (Nat.le_of_ble_eq_true rfl) dX0_isOld_11 ⟨Nat.zero_le _, Nat.zero_le _⟩ ?_
  exact k_zret hx hb hr hlocks dX0_isOld_14 (rfl)
set_option maxHeartbeats 4000000 in
set_option maxRecDepth 100000 in
theorem c_X0_read (l : Launch) (D : va_G) (cI : ClassId) (q : Nat → Nat) (sh sp ld nm tx ds ct : Nat → Int32) (co : Int64) (kg : Int32) (ks : Nat → Int32) (p0 x0 : Nat) (hp : p0 < 8) (hx0 : x0 < 4) (T K : Nat → Nat) (hG : ∀ w, w < 32 → T w < 32768 ∧ K w ≤ 5 ∧ tx w = nI (32768 * K w + T w) ∧ ∀ j, j < K w → S25 (ct (w * 5 + j))) (hsh : ∀ g, g < 8 → S25 (sh g)) (hS0 : ∀ w, w < 32 → T w < 8 ^ K w) : k_M l yX0_read wsX0_read ({ frames := 5, cells := 0, slots := 0, locals := 115 } : Room) [.ref (q 0), .int (nI p0), .int (nI x0)] (k_B D (wx cI q sh sp ld nm tx ds ct co kg ks) [(cI, .int)]) (some (.int (if K (p0 * 4 + x0) = 0 then (-1) else nI (rtN (rdS sh ct ds (p0 * 4 + x0)) (K (p0 * 4 + x0)))))) := by
  refine k_head (cc := cX0_read) (maxL := 4) (ret := some .int) [(0, .ref (q 0)), (1, .int (nI p0)), (2, .int (nI x0))] (by decide) rfl (Nat.le_of_ble_eq_true rfl) rfl ?_
  intro p e s m below meth c ls hx hb hr hml hown hts hlocks hname hB hl
  have hown : s.vm.findClass RX0 = some m.cls := hown
  obtain ⟨hP, hK⟩ := hB
  have hin : ∀ w ∈ wsX00, w ∈ wsX0_read := fun w h => List.mem_cons_of_mem _ (List.mem_append_left _ (List.mem_append_right _ h))
  refine lv_iload_n hx hb dX0_read_0 rfl (lv_at hl 1 rfl) ?_
  refine lv_iload_n hx hb dX0_read_1 rfl (lv_at hl 2 rfl) ?_
  refine k_callS0 (As := [.int (nI p0), .int (nI x0)]) (rest := []) ⟨hx, hb, hml, hown, hts⟩ (c_X0_requireExit l p0 x0 (by omega) (by omega)) (va_cwS 2 hts gX0_read_X0_requireExit rfl rfl rfl (by decide +kernel) ⟨Nat.le_of_ble_eq_true rfl, Nat.le_of_ble_eq_true rfl⟩) k_bl_tt (fun _ _ _ => trivial) rfl hl.1 rfl (Nat.le_of_ble_eq_true rfl) dX0_read_2 ⟨Nat.zero_le _, Nat.zero_le _⟩ ?_
  refine lv_iload_n hx hb dX0_read_5 rfl (lv_at hl 1 rfl) ?_
  refine lv_iload_n hx hb dX0_read_6 rfl (lv_at hl 2 rfl) ?_
  refine k_callSi (As := [.int (nI p0), .int (nI x0)]) (rest := []) ⟨hx, hb, hml, hown, hts⟩ (c_X0_wayOf l p0 x0) (va_cwS 2 hts gX0_read_X0_wayOf rfl rfl rfl (by decide +kernel) ⟨Nat.le_of_ble_eq_true rfl, Nat.le_of_ble_eq_true rfl⟩) k_bl_tt (fun _ _ _ => trivial) rfl hl.1 rfl (Nat.le_of_ble_eq_true rfl) dX0_read_7 ⟨Nat.zero_le _, Nat.zero_le _⟩ ?_
  refine lv_istore_n (lv' := [(3, .int (nI (p0 * 4 + x0))), (0, .ref (q 0)), (1, .int (nI p0)), (2, .int (nI x0))]) hx hb dX0_read_10 rfl hl (by decide) rfl (fun ls hl => ?_)
  refine lv_aload_n hx hb dX0_read_11 rfl (lv_at hl 1 rfl) ?_
  refine va_get (D := D) (ci := 0) (v := .ref (q 5)) (C := RX0) (T := TX0) (N := 10) hx hb hts hin hown hK hP 0 rfl rfl 4 (by decide) (hts (.fieldLink RX0 22 "SignRail" "signTexts" "[I") (by decide +kernel)) (fun _ h9 => h9) rfl dX0_read_12 ?_
  refine lv_iload_n hx hb dX0_read_15 rfl (lv_at hl 0 rfl) ?_
  refine n_iald hx hb hK hP 5 0 rfl rfl (k := (p0 * 4 + x0)) (by omega) (Nat.le_of_ble_eq_true rfl) dX0_read_16 ?_
  refine lv_as (y := nI (32768 * (K (p0 * 4 + x0)) + (T (p0 * 4 + x0)))) ((hG _ (by omega)).2.2.1) ?_
  refine n_if_ne (tgt := 24) hx hb dX0_read_17 (by decide) (by have := hG _ (show p0 * 4 + x0 < 32 by omega); omega) (fun c_17 => ?_) (fun c_17 => ?_)
  · have hrt := rtN_lt (r := rdS sh ct ds (p0 * 4 + x0)) (fun _ => rdG_lt _ _) (K (p0 * 4 + x0))
    have hp8 := p8_le (k := K (p0 * 4 + x0)) (hG _ (by omega)).2.1
    refine lv_aload_n hx hb dX0_read_24 rfl (lv_at hl 1 rfl) ?_
    refine lv_iload_n hx hb dX0_read_25 rfl (lv_at hl 0 rfl) ?_
    refine k_callVi (As := [.int (nI (p0 * 4 + x0))]) (rest := []) ⟨hx, hb, hml, hown, hts⟩ (c_X0_readText l D cI q sh sp ld nm tx ds ct co kg ks (p0 * 4 + x0) (T (p0 * 4 + x0)) (K (p0 * 4 + x0)) (by omega) (hG _ (by omega)).1 (hG _ (by omega)).2.1 (hG _ (by omega)).2.2.1 hsh (hG _ (by omega)).2.2.2) (cwV 1 hts gX0_read_X0_readText rfl rfl rfl (by decide +kernel) ⟨Nat.le_of_ble_eq_true rfl, Nat.le_of_ble_eq_true rfl⟩) k_B_bl (k_B_of hP hK) (va_recv hK hP (ci := 0) (q0 := 0) rfl rfl) rfl hl.1 rfl (Nat.le_of_ble_eq_true rfl) dX0_read_26 ⟨Nat.zero_le _, Nat.zero_le _⟩ ?_
    refine k_callSi (As := [.int (nI (32768 * (K (p0 * 4 + x0)) + (rtN (rdS sh ct ds (p0 * 4 + x0)) (K (p0 * 4 + x0)))))]) (rest := []) ⟨hx, hb, hml, hown, hts⟩ (c_X0_numberOf l (rtN (rdS sh ct ds (p0 * 4 + x0)) (K (p0 * 4 + x0))) (K (p0 * 4 + x0)) (by omega)) (va_cwS 1 hts gX0_read_X0_numberOf rfl rfl rfl (by decide +kernel) ⟨Nat.le_of_ble_eq_true rfl, Nat.le_of_ble_eq_true rfl⟩) k_bl_tt (fun _ _ _ => trivial) rfl hl.1 rfl (Nat.le_of_ble_eq_true rfl) dX0_read_29 ⟨Nat.zero_le _, Nat.zero_le _⟩ ?_
    exact k_iret hx hb hr hlocks dX0_read_32 ((if_neg (fun q => by have h0 := hS0 (p0 * 4 + x0) (by omega); rw [q] at h0 c_17; omega)).symm)
  · refine lv_iconst (v := (-1)) hx hb dX0_read_20 (by decide) ?_
    refine lv_goto (tgt := 32) hx hb dX0_read_21 (by decide) ?_
    exact k_iret hx hb hr hlocks dX0_read_32 ((if_pos (by omega)).symm)
set_option maxHeartbeats 4000000 in
set_option maxRecDepth 100000 in
theorem c_X0_cost (l : Launch) (D : va_G) (cI : ClassId) (q : Nat → Nat) (sh sp ld nm tx ds ct : Nat → Int32) (co : Int64) (kg : Int32) (ks : Nat → Int32) : k_M l yX0_cost wsX0_cost ({ frames := 0, cells := 0, slots := 0, locals := 0 } : Room) [.ref (q 0)] (k_B D (wx cI q sh sp ld nm tx ds ct co kg ks) [(cI, .int)]) (some (.long co)) := by
  refine k_head (cc := cX0_cost) (maxL := 1) (ret := some .long) [(0, .ref (q 0))] (by decide) rfl (Nat.le_of_ble_eq_true rfl) rfl ?_
  intro p e s m below meth c ls hx hb hr hml hown hts hlocks hname hB hl
  have hown : s.vm.findClass RX0 = some m.cls := hown
  obtain ⟨hP, hK⟩ := hB
  have hin : ∀ w ∈ wsX00, w ∈ wsX0_cost := fun w h => List.mem_cons_of_mem _ (List.mem_append_right _ h)
  refine lv_aload_n hx hb dX0_cost_0 rfl (lv_at hl 0 rfl) ?_
  refine va_get (D := D) (ci := 0) (v := .long co) (C := RX0) (T := TX0) (N := 10) hx hb hts hin hown hK hP 0 rfl rfl 7 (by decide) (hts (.fieldLink RX0 31 "SignRail" "costSoFar" "J") (by decide +kernel)) (fun _ h9 => h9) rfl dX0_cost_1 ?_
  exact W.lret hx hb hr (fun t ht hW => ⟨rfl, ht⟩) (fun q hq => nomatch hq) dX0_cost_4 hlocks
set_option maxHeartbeats 4000000 in
set_option maxRecDepth 100000 in
theorem c_X0_walkBySteps (l : Launch) (D : va_G) (cI : ClassId) (q : Nat → Nat) (sh sp ld nm tx ds ct : Nat → Int32) (co : Int64) (kg : Int32) (ks : Nat → Int32) (p0 : Nat) (hp : p0 < 8) (t k : Nat) (hk1 : 1 ≤ k) (hk5 : k ≤ 5) (htk : t < 8 ^ k) (T K : Nat → Nat) (hG : ∀ w, w < 32 → T w < 32768 ∧ K w ≤ 5 ∧ tx w = nI (32768 * K w + T w) ∧ ∀ j, j < K w → S25 (ct (w * 5 + j))) (Ld : Nat → Nat) (hLd : ∀ w, w < 32 → Ld w ≤ 8 ∧ ld w = ix (Ld w)) (hsh : ∀ g, g < 8 → S25 (sh g)) (NT NK : Nat → Nat) (hN : ∀ p, p < 8 → NT p < 32768 ∧ NK p ≤ 5 ∧ nm p = nI (32768 * NK p + NT p)) : k_M l yX0_walkBySteps wsX0_walkBySteps ({ frames := 7, cells := 0, slots := 0, locals := 167 } : Room) [.ref (q 0), .int (nI p0), .int (nI t), .int (nI k)] (k_B D (wx cI q sh sp ld nm tx ds ct co kg ks) [(cI, .int)]) (some (.int (sa (toldC sh ct ds K k t) Ld (arrC NK NT k t) 31 0 p0 tk0))) := by
  refine k_head (cc := cX0_walkBySteps) (maxL := 4) (ret := some .int) [(0, .ref (q 0)), (1, .int (nI p0)), (2, .int (nI t)), (3, .int (nI k))] (by decide) rfl (Nat.le_of_ble_eq_true rfl) rfl ?_
  intro p e s m below meth c ls hx hb hr hml hown hts hlocks hname hB hl
  have hown : s.vm.findClass RX0 = some m.cls := hown
  obtain ⟨hP, hK⟩ := hB
  have hin : ∀ w ∈ wsX00, w ∈ wsX0_walkBySteps := fun w h => List.mem_cons_of_mem _ (List.mem_append_left _ (List.mem_append_left _ (List.mem_append_right _ h)))
  have hp8 := p8_le hk5
  have ht' : t < 32768 := by omega
  refine lv_iload_n hx hb dX0_walkBySteps_0 rfl (lv_at hl 1 rfl) ?_
  refine k_callS0 (As := [.int (nI p0)]) (rest := []) ⟨hx, hb, hml, hown, hts⟩ (c_X0_requirePlace l p0 (by omega)) (va_cwS 1 hts gX0_walkBySteps_X0_requirePlace rfl rfl rfl (by decide +kernel) ⟨Nat.le_of_ble_eq_true rfl, Nat.le_of_ble_eq_true rfl⟩) k_bl_tt (fun _ _ _ => trivial) rfl hl.1 rfl (Nat.le_of_ble_eq_true rfl) dX0_walkBySteps_1 ⟨Nat.zero_le _, Nat.zero_le _⟩ ?_
  refine lv_iload_n hx hb dX0_walkBySteps_4 rfl (lv_at hl 2 rfl) ?_
  refine lv_iload_n hx hb dX0_walkBySteps_5 rfl (lv_at hl 3 rfl) ?_
  refine k_callS0 (As := [.int (nI t), .int (nI k)]) (rest := []) ⟨hx, hb, hml, hown, hts⟩ (c_X0_requireText l t k (by omega) (by omega) (by assumption)) (va_cwS 2 hts gX0_walkBySteps_X0_requireText rfl rfl rfl (by decide +kernel) ⟨Nat.le_of_ble_eq_true rfl, Nat.le_of_ble_eq_true rfl⟩) k_bl_tt (fun _ _ _ => trivial) rfl hl.1 rfl (Nat.le_of_ble_eq_true rfl) dX0_walkBySteps_6 ⟨Nat.zero_le _, Nat.zero_le _⟩ ?_
  refine lv_aload_n hx hb dX0_walkBySteps_9 rfl (lv_at hl 0 rfl) ?_
  refine lv_iload_n hx hb dX0_walkBySteps_10 rfl (lv_at hl 1 rfl) ?_
  refine lv_iload_n hx hb dX0_walkBySteps_11 rfl (lv_at hl 2 rfl) ?_
  refine lv_iload_n hx hb dX0_walkBySteps_12 rfl (lv_at hl 3 rfl) ?_
  refine k_callSi (As := [.int (nI t), .int (nI k)]) (rest := [.int (nI p0), .ref (q 0)]) ⟨hx, hb, hml, hown, hts⟩ (c_X0_pack l t k (by omega) (by omega)) (va_cwS 2 hts gX0_walkBySteps_X0_pack rfl rfl rfl (by decide +kernel) ⟨Nat.le_of_ble_eq_true rfl, Nat.le_of_ble_eq_true rfl⟩) k_bl_tt (fun _ _ _ => trivial) rfl hl.1 rfl (Nat.le_of_ble_eq_true rfl) dX0_walkBySteps_13 ⟨Nat.zero_le _, Nat.zero_le _⟩ ?_
  refine k_callVi (As := [.int (nI p0), .int (nI (32768 * k + t))]) (rest := []) ⟨hx, hb, hml, hown, hts⟩ (c_X0_stepsToArrive l D cI q sh sp ld nm tx ds ct co kg ks p0 hp t k ht' hk5 T K Ld hG hLd hsh NT NK hN) (cwV 2 hts gX0_walkBySteps_X0_stepsToArrive rfl rfl rfl (by decide +kernel) ⟨Nat.le_of_ble_eq_true rfl, Nat.le_of_ble_eq_true rfl⟩) k_B_bl (k_B_of hP hK) (va_recv hK hP (ci := 0) (q0 := 0) rfl rfl) rfl hl.1 rfl (Nat.le_of_ble_eq_true rfl) dX0_walkBySteps_16 ⟨Nat.zero_le _, Nat.zero_le _⟩ ?_
  exact k_iret hx hb hr hlocks dX0_walkBySteps_19 (rfl)
set_option maxHeartbeats 4000000 in
set_option maxRecDepth 100000 in
theorem c_X0_placeBehind (l : Launch) (D : va_G) (cI : ClassId) (q : Nat → Nat) (sh sp ld nm tx ds ct : Nat → Int32) (co : Int64) (kg : Int32) (ks : Nat → Int32) (p0 : Nat) (hp : p0 < 8) (t k : Nat) (hk1 : 1 ≤ k) (hk5 : k ≤ 5) (htk : t < 8 ^ k) (s0 : Nat) (hs0 : s0 ≤ 30) (T K : Nat → Nat) (hG : ∀ w, w < 32 → T w < 32768 ∧ K w ≤ 5 ∧ tx w = nI (32768 * K w + T w) ∧ ∀ j, j < K w → S25 (ct (w * 5 + j))) (Ld : Nat → Nat) (hLd : ∀ w, w < 32 → Ld w ≤ 8 ∧ ld w = ix (Ld w)) (hsh : ∀ g, g < 8 → S25 (sh g)) (NT NK : Nat → Nat) (hN : ∀ p, p < 8 → NT p < 32768 ∧ NK p ≤ 5 ∧ nm p = nI (32768 * NK p + NT p)) : k_M l yX0_placeBehind wsX0_placeBehind ({ frames := 7, cells := 0, slots := 0, locals := 168 } : Room) [.ref (q 0), .int (nI p0), .int (nI t), .int (nI k), .int (nI s0)] (k_B D (wx cI q sh sp ld nm tx ds ct co kg ks) [(cI, .int)]) (some (.int (nI (pl (toldC sh ct ds K k t) Ld (arrC NK NT k t) s0 p0 tk0)))) := by
  refine k_head (cc := cX0_placeBehind) (maxL := 5) (ret := some .int) [(0, .ref (q 0)), (1, .int (nI p0)), (2, .int (nI t)), (3, .int (nI k)), (4, .int (nI s0))] (by decide) rfl (Nat.le_of_ble_eq_true rfl) rfl ?_
  intro p e s m below meth c ls hx hb hr hml hown hts hlocks hname hB hl
  have hown : s.vm.findClass RX0 = some m.cls := hown
  obtain ⟨hP, hK⟩ := hB
  have hin : ∀ w ∈ wsX00, w ∈ wsX0_placeBehind := fun w h => List.mem_cons_of_mem _ (List.mem_append_left _ (List.mem_append_left _ (List.mem_append_right _ h)))
  have hp8 := p8_le hk5
  have ht' : t < 32768 := by omega
  refine lv_iload_n hx hb dX0_placeBehind_0 rfl (lv_at hl 1 rfl) ?_
  refine k_callS0 (As := [.int (nI p0)]) (rest := []) ⟨hx, hb, hml, hown, hts⟩ (c_X0_requirePlace l p0 (by omega)) (va_cwS 1 hts gX0_placeBehind_X0_requirePlace rfl rfl rfl (by decide +kernel) ⟨Nat.le_of_ble_eq_true rfl, Nat.le_of_ble_eq_true rfl⟩) k_bl_tt (fun _ _ _ => trivial) rfl hl.1 rfl (Nat.le_of_ble_eq_true rfl) dX0_placeBehind_1 ⟨Nat.zero_le _, Nat.zero_le _⟩ ?_
  refine lv_iload_n hx hb dX0_placeBehind_4 rfl (lv_at hl 2 rfl) ?_
  refine lv_iload_n hx hb dX0_placeBehind_5 rfl (lv_at hl 3 rfl) ?_
  refine k_callS0 (As := [.int (nI t), .int (nI k)]) (rest := []) ⟨hx, hb, hml, hown, hts⟩ (c_X0_requireText l t k (by omega) (by omega) (by assumption)) (va_cwS 2 hts gX0_placeBehind_X0_requireText rfl rfl rfl (by decide +kernel) ⟨Nat.le_of_ble_eq_true rfl, Nat.le_of_ble_eq_true rfl⟩) k_bl_tt (fun _ _ _ => trivial) rfl hl.1 rfl (Nat.le_of_ble_eq_true rfl) dX0_placeBehind_6 ⟨Nat.zero_le _, Nat.zero_le _⟩ ?_
  refine lv_iload hx hb dX0_placeBehind_9 (lv_at hl 4 rfl) ?_
  refine n_if_lt (tgt := 21) hx hb dX0_placeBehind_11 (by decide) (by omega) ?_
  refine lv_iload hx hb dX0_placeBehind_14 (lv_at hl 4 rfl) ?_
  refine lv_bipush (v := nI 30) hx hb dX0_placeBehind_16 (by decide) ?_
  refine n_icmp_le (tgt := 31) hx hb dX0_placeBehind_18 (by decide) (by omega) (by omega) (fun c_18 => ?_) (fun c_18 => ?_)
  · refine lv_aload_n hx hb dX0_placeBehind_31 rfl (lv_at hl 0 rfl) ?_
    refine lv_iload_n hx hb dX0_placeBehind_32 rfl (lv_at hl 1 rfl) ?_
    refine lv_iload_n hx hb dX0_placeBehind_33 rfl (lv_at hl 2 rfl) ?_
    refine lv_iload_n hx hb dX0_placeBehind_34 rfl (lv_at hl 3 rfl) ?_
    refine k_callSi (As := [.int (nI t), .int (nI k)]) (rest := [.int (nI p0), .ref (q 0)]) ⟨hx, hb, hml, hown, hts⟩ (c_X0_pack l t k (by omega) (by omega)) (va_cwS 2 hts gX0_placeBehind_X0_pack rfl rfl rfl (by decide +kernel) ⟨Nat.le_of_ble_eq_true rfl, Nat.le_of_ble_eq_true rfl⟩) k_bl_tt (fun _ _ _ => trivial) rfl hl.1 rfl (Nat.le_of_ble_eq_true rfl) dX0_placeBehind_35 ⟨Nat.zero_le _, Nat.zero_le _⟩ ?_
    refine lv_iload hx hb dX0_placeBehind_38 (lv_at hl 4 rfl) ?_
    refine k_callVi (As := [.int (nI p0), .int (nI (32768 * k + t)), .int (nI s0)]) (rest := []) ⟨hx, hb, hml, hown, hts⟩ (c_X0_placeReached l D cI q sh sp ld nm tx ds ct co kg ks p0 hp t k ht' hk5 s0 (by omega) T K Ld hG hLd hsh NT NK hN) (cwV 3 hts gX0_placeBehind_X0_placeReached rfl rfl rfl (by decide +kernel) ⟨Nat.le_of_ble_eq_true rfl, Nat.le_of_ble_eq_true rfl⟩) k_B_bl (k_B_of hP hK) (va_recv hK hP (ci := 0) (q0 := 0) rfl rfl) rfl hl.1 rfl (Nat.le_of_ble_eq_true rfl) dX0_placeBehind_40 ⟨Nat.zero_le _, Nat.zero_le _⟩ ?_
    exact k_iret hx hb hr hlocks dX0_placeBehind_43 (rfl)
  · exact absurd hs0 (by omega)
set_option maxHeartbeats 4000000 in
set_option maxRecDepth 100000 in
theorem c_X0_walk (l : Launch) (D : va_G) (cI : ClassId) (q : Nat → Nat) (sh sp ld nm tx ds ct : Nat → Int32) (co : Int64) (kg : Int32) (ks : Nat → Int32) (p0 : Nat) (hp : p0 < 8) (t k : Nat) (hk1 : 1 ≤ k) (hk5 : k ≤ 5) (htk : t < 8 ^ k) (T K : Nat → Nat) (hG : ∀ w, w < 32 → T w < 32768 ∧ K w ≤ 5 ∧ tx w = nI (32768 * K w + T w) ∧ ∀ j, j < K w → S25 (ct (w * 5 + j))) (Ld : Nat → Nat) (hLd : ∀ w, w < 32 → Ld w ≤ 8 ∧ ld w = ix (Ld w)) (hsh : ∀ g, g < 8 → S25 (sh g)) (NT NK : Nat → Nat) (hN : ∀ p, p < 8 → NT p < 32768 ∧ NK p ≤ 5 ∧ nm p = nI (32768 * NK p + NT p)) (hKp : kpOK (fun gk gt p => sa (toldC sh ct ds K gk gt) Ld (arrC NK NT gk gt) 31 0 p tk0) kg ks) (hDt : va_D (fun _ => True) (wx cI q sh sp ld nm tx ds ct co kg ks)) : Met l yX0_walk wsX0_walk ({ frames := 7, cells := 0, slots := 0, locals := 167 } : Room) (k_P [.ref (q 0), .int (nI p0), .int (nI t), .int (nI k)] (k_B D (wx cI q sh sp ld nm tx ds ct co kg ks) [(cI, .int)])) (k_WQ D (wx cI q sh sp ld nm tx ds ct co kg ks) (fun u : Int32 × (Nat → Int32) => kpOK (fun gk gt p => sa (toldC sh ct ds K gk gt) Ld (arrC NK NT gk gt) 31 0 p tk0) u.1 u.2) (fun u => wx cI q sh sp ld nm tx ds ct co u.1 u.2) (fun u => some (.int (sa (toldC sh ct ds K k t) Ld (arrC NK NT k t) 31 0 p0 tk0)))) 0 0 (k_A (wx cI q sh sp ld nm tx ds ct co kg ks)) := by
  refine k_head (cc := cX0_walk) (maxL := 5) (ret := (some .int)) [(0, .ref (q 0)), (1, .int (nI p0)), (2, .int (nI t)), (3, .int (nI k))] (by decide) rfl (Nat.le_of_ble_eq_true rfl) rfl ?_
  intro p e s m below meth c ls hx hb hr hml hown hts hlocks hname hB hl
  have hown : s.vm.findClass RX0 = some m.cls := hown
  obtain ⟨hP, hK⟩ := hB
  have hin : ∀ w ∈ wsX00, w ∈ wsX0_walk := fun w h => List.mem_cons_of_mem _ (List.mem_append_left _ (List.mem_append_left _ (List.mem_append_right _ h)))
  have hD := k_A_D hDt
  have hS : va_S (k_A (wx cI q sh sp ld nm tx ds ct co kg ks)) s.heap s.heap [] := va_S.rf
  have hp8 := p8_le hk5
  have ht' : t < 32768 := by omega
  refine lv_iload_n hx hb dX0_walk_0 rfl (lv_at hl 1 rfl) ?_
  refine k_callS0 (As := [.int (nI p0)]) (rest := []) ⟨hx, hb, hml, hown, hts⟩ (c_X0_requirePlace l p0 (by omega)) (va_cwS 1 hts gX0_walk_X0_requirePlace rfl rfl rfl (by decide +kernel) ⟨Nat.le_of_ble_eq_true rfl, Nat.le_of_ble_eq_true rfl⟩) k_bl_tt (fun _ _ _ => trivial) rfl hl.1 rfl (Nat.le_of_ble_eq_true rfl) dX0_walk_1 ⟨Nat.zero_le _, Nat.zero_le _⟩ ?_
  refine lv_iload_n hx hb dX0_walk_4 rfl (lv_at hl 2 rfl) ?_
  refine lv_iload_n hx hb dX0_walk_5 rfl (lv_at hl 3 rfl) ?_
  refine k_callS0 (As := [.int (nI t), .int (nI k)]) (rest := []) ⟨hx, hb, hml, hown, hts⟩ (c_X0_requireText l t k (by omega) (by omega) (by assumption)) (va_cwS 2 hts gX0_walk_X0_requireText rfl rfl rfl (by decide +kernel) ⟨Nat.le_of_ble_eq_true rfl, Nat.le_of_ble_eq_true rfl⟩) k_bl_tt (fun _ _ _ => trivial) rfl hl.1 rfl (Nat.le_of_ble_eq_true rfl) dX0_walk_6 ⟨Nat.zero_le _, Nat.zero_le _⟩ ?_
  refine lv_iload_n hx hb dX0_walk_9 rfl (lv_at hl 2 rfl) ?_
  refine lv_iload_n hx hb dX0_walk_10 rfl (lv_at hl 3 rfl) ?_
  refine k_callSi (As := [.int (nI t), .int (nI k)]) (rest := []) ⟨hx, hb, hml, hown, hts⟩ (c_X0_pack l t k (by omega) (by omega)) (va_cwS 2 hts gX0_walk_X0_pack rfl rfl rfl (by decide +kernel) ⟨Nat.le_of_ble_eq_true rfl, Nat.le_of_ble_eq_true rfl⟩) k_bl_tt (fun _ _ _ => trivial) rfl hl.1 rfl (Nat.le_of_ble_eq_true rfl) dX0_walk_11 ⟨Nat.zero_le _, Nat.zero_le _⟩ ?_
  refine lv_istore (lv' := [(4, .int (nI (32768 * k + t))), (0, .ref (q 0)), (1, .int (nI p0)), (2, .int (nI t)), (3, .int (nI k))]) hx hb dX0_walk_14 hl (by decide) rfl (fun ls hl => ?_)
  refine lv_iload hx hb dX0_walk_16 (lv_at hl 0 rfl) ?_
  refine lv_aload_n hx hb dX0_walk_18 rfl (lv_at hl 1 rfl) ?_
  refine va_get (D := D) (ci := 0) (v := .int kg) (C := RX0) (T := TX0) (N := 10) hx hb hts hin hown hK hP 0 rfl rfl 8 (by decide) (hts (.fieldLink RX0 35 "SignRail" "keptGoal" "I") (by decide +kernel)) (fun _ h9 => h9) rfl dX0_walk_19 ?_
  refine lv_icmp_eq (tgt := 40) hx hb dX0_walk_22 (by decide) (fun c_22 => ?_) (fun c_22 => ?_)
  · refine lv_aload_n hx hb dX0_walk_40 rfl (lv_at hl 1 rfl) ?_
    refine va_get (D := D) (ci := 0) (v := .ref (q 8)) (C := RX0) (T := TX0) (N := 10) hx hb hts hin hown hK hP 0 rfl rfl 9 (by decide) (hts (.fieldLink RX0 39 "SignRail" "keptSteps" "[I") (by decide +kernel)) (fun _ h9 => h9) rfl dX0_walk_41 ?_
    refine lv_iload_n hx hb dX0_walk_44 rfl (lv_at hl 2 rfl) ?_
    refine n_iald hx hb hK hP 8 0 rfl rfl (k := p0) (by omega) (Nat.le_of_ble_eq_true rfl) dX0_walk_45 ?_
    refine lv_bipush (v := (-2)) hx hb dX0_walk_46 (by decide) ?_
    refine lv_icmp_ne (tgt := 64) hx hb dX0_walk_48 (by decide) (fun c_48 => ?_) (fun c_48 => ?_)
    · refine lv_aload_n hx hb dX0_walk_64 rfl (lv_at hl 1 rfl) ?_
      refine va_get (D := D) (ci := 0) (v := .ref (q 8)) (C := RX0) (T := TX0) (N := 10) hx hb hts hin hown hK hP 0 rfl rfl 9 (by decide) (hts (.fieldLink RX0 39 "SignRail" "keptSteps" "[I") (by decide +kernel)) (fun _ h9 => h9) rfl dX0_walk_65 ?_
      refine lv_iload_n hx hb dX0_walk_68 rfl (lv_at hl 2 rfl) ?_
      refine n_iald hx hb hK hP 8 0 rfl rfl (k := p0) (by omega) (Nat.le_of_ble_eq_true rfl) dX0_walk_69 ?_
      refine lv_as (y := sa (toldC sh ct ds K k t) Ld (arrC NK NT k t) 31 0 p0 tk0) ((hKp k t hk1 hk5 htk c_22.symm p0 hp).resolve_left c_48) ?_
      exact k_wiret ((kg, ks))  hx hb hr hlocks dX0_walk_70 (hKp) rfl hP hS (Nat.le_of_ble_eq_true rfl) (Nat.le_of_ble_eq_true rfl)
    · refine lv_aload_n hx hb dX0_walk_51 rfl (lv_at hl 1 rfl) ?_
      refine va_get (D := D) (ci := 0) (v := .ref (q 8)) (C := RX0) (T := TX0) (N := 10) hx hb hts hin hown hK hP 0 rfl rfl 9 (by decide) (hts (.fieldLink RX0 39 "SignRail" "keptSteps" "[I") (by decide +kernel)) (fun _ h9 => h9) rfl dX0_walk_52 ?_
      refine lv_iload_n hx hb dX0_walk_55 rfl (lv_at hl 2 rfl) ?_
      refine lv_aload_n hx hb dX0_walk_56 rfl (lv_at hl 1 rfl) ?_
      refine lv_iload_n hx hb dX0_walk_57 rfl (lv_at hl 2 rfl) ?_
      refine lv_iload hx hb dX0_walk_58 (lv_at hl 0 rfl) ?_
      refine k_callVi (As := [.int (nI p0), .int (nI (32768 * k + t))]) (rest := [.int (nI p0), .ref (q 8)]) ⟨hx, hb, hml, hown, hts⟩ (c_X0_stepsToArrive l D cI q sh sp ld nm tx ds ct co kg ks p0 hp t k ht' hk5 T K Ld hG hLd hsh NT NK hN) (cwV 2 hts gX0_walk_X0_stepsToArrive rfl rfl rfl (by decide +kernel) ⟨Nat.le_of_ble_eq_true rfl, Nat.le_of_ble_eq_true rfl⟩) k_B_bl (k_B_of hP hK) (va_recv hK hP (ci := 0) (q0 := 0) rfl rfl) rfl hl.1 rfl (Nat.le_of_ble_eq_true rfl) dX0_walk_60 ⟨Nat.zero_le _, Nat.zero_le _⟩ ?_
      refine n_iast hx hb hK hP hD hS 8 0 rfl rfl (k := p0) (by omega) (Nat.le_of_ble_eq_true rfl) dX0_walk_63 (fun H locs hP hD hS => ?_)
      have hP : va_P D vwCl (wx cI q sh sp ld nm tx ds ct co kg (upd ks p0 (sa (toldC sh ct ds K k t) Ld (arrC NK NT k t) 31 0 p0 tk0))) H := hP
      have hD : va_D _ (wx cI q sh sp ld nm tx ds ct co kg (upd ks p0 (sa (toldC sh ct ds K k t) Ld (arrC NK NT k t) 31 0 p0 tk0))) := hD
      refine lv_aload_n hx hb dX0_walk_64 rfl (lv_at hl 1 rfl) ?_
      refine va_get (D := D) (ci := 0) (v := .ref (q 8)) (C := RX0) (T := TX0) (N := 10) hx hb hts hin hown hK hP 0 rfl rfl 9 (by decide) (hts (.fieldLink RX0 39 "SignRail" "keptSteps" "[I") (by decide +kernel)) (fun _ h9 => h9) rfl dX0_walk_65 ?_
      refine lv_iload_n hx hb dX0_walk_68 rfl (lv_at hl 2 rfl) ?_
      refine n_iald hx hb hK hP 8 0 rfl rfl (k := p0) (by omega) (Nat.le_of_ble_eq_true rfl) dX0_walk_69 ?_
      refine lv_as (y := sa (toldC sh ct ds K k t) Ld (arrC NK NT k t) 31 0 p0 tk0) (pk_us) ?_
      exact k_wiret ((kg, upd ks p0 (sa (toldC sh ct ds K k t) Ld (arrC NK NT k t) 31 0 p0 tk0)))  hx hb hr hlocks dX0_walk_70 (kp_upd (sf := fun gk gt p => sa (toldC sh ct ds K gk gt) Ld (arrC NK NT gk gt) 31 0 p tk0) hk5 htk c_22.symm (fun v hv _ => hKp k t hk1 hk5 htk c_22.symm v hv)) rfl hP hS (Nat.le_of_ble_eq_true rfl) (Nat.le_of_ble_eq_true rfl)
  · refine lv_aload_n hx hb dX0_walk_25 rfl (lv_at hl 1 rfl) ?_
    refine lv_iload hx hb dX0_walk_26 (lv_at hl 0 rfl) ?_
    refine va_put (D := D) (ci := 0) (v := .int (nI (32768 * k + t))) (ty := .int) (C := RX0) (T := TX0) (N := 10) hx hb hts hin tyX0 tyX0_ok nmX0 hown hK hP hD hS 0 rfl rfl 8 (by decide) (hts (.fieldLink RX0 35 "SignRail" "keptGoal" "I") (by decide +kernel)) (fun _ h9 => h9) rfl (by decide +kernel) (rfl) (rfl) (Nat.le_of_ble_eq_true rfl) dX0_walk_28 (fun H locs hP hD hS => ?_)
    have hP : va_P D vwCl (wx cI q sh sp ld nm tx ds ct co (nI (32768 * k + t)) ks) H := hP
    have hD : va_D _ (wx cI q sh sp ld nm tx ds ct co (nI (32768 * k + t)) ks) := hD
    refine lv_aload_n hx hb dX0_walk_31 rfl (lv_at hl 1 rfl) ?_
    refine va_get (D := D) (ci := 0) (v := .ref (q 8)) (C := RX0) (T := TX0) (N := 10) hx hb hts hin hown hK hP 0 rfl rfl 9 (by decide) (hts (.fieldLink RX0 39 "SignRail" "keptSteps" "[I") (by decide +kernel)) (fun _ h9 => h9) rfl dX0_walk_32 ?_
    refine lv_bipush (v := (-2)) hx hb dX0_walk_35 (by decide) ?_
    refine k_callSW (wr := (wx cI q sh sp ld nm tx ds ct co (nI (32768 * k + t)) ks).take 8) (As := [.ref (q 8), .int (-2)]) (rest := []) ⟨hx, hb, hml, hown, hts⟩ (c_fill l D cI (q 8) 8 ks (-2) (by decide)) (va_cwS 2 hts gX0_walk_J7_fill_53178 rfl rfl rfl (by decide +kernel) ⟨Nat.le_of_ble_eq_true rfl, Nat.le_of_ble_eq_true rfl⟩) k_B_bl (k_B_of (hP.sub [8] rfl) hK) rfl hl.1 rfl (Nat.le_of_ble_eq_true rfl) dX0_walk_37 ⟨Nat.le_of_ble_eq_true rfl, Nat.le_of_ble_eq_true rfl⟩ hP hD hS [0, 1, 2, 3, 4, 5, 6, 7] [8] rfl rfl (fun _ => rfl) (fun u_37 H locs hu_37 hP hD hS hsz hkp => ?_)
    have hP : va_P D vwCl (wx cI q sh sp ld nm tx ds ct co (nI (32768 * k + t)) (fa_fill (fun _ => (-2)) ks 8)) H := hP
    have hD : va_D _ (wx cI q sh sp ld nm tx ds ct co (nI (32768 * k + t)) (fa_fill (fun _ => (-2)) ks 8)) := hD
    refine lv_aload_n hx hb dX0_walk_40 rfl (lv_at hl 1 rfl) ?_
    refine va_get (D := D) (ci := 0) (v := .ref (q 8)) (C := RX0) (T := TX0) (N := 10) hx hb hts hin hown hK hP 0 rfl rfl 9 (by decide) (hts (.fieldLink RX0 39 "SignRail" "keptSteps" "[I") (by decide +kernel)) (fun _ h9 => h9) rfl dX0_walk_41 ?_
    refine lv_iload_n hx hb dX0_walk_44 rfl (lv_at hl 2 rfl) ?_
    refine n_iald hx hb hK hP 8 0 rfl rfl (k := p0) (by omega) (Nat.le_of_ble_eq_true rfl) dX0_walk_45 ?_
    refine lv_bipush (v := (-2)) hx hb dX0_walk_46 (by decide) ?_
    refine lv_icmp_ne (tgt := 64) hx hb dX0_walk_48 (by decide) (fun c_48 => ?_) (fun c_48 => ?_)
    · exact absurd (fa_fill_in hp) c_48
    · refine lv_aload_n hx hb dX0_walk_51 rfl (lv_at hl 1 rfl) ?_
      refine va_get (D := D) (ci := 0) (v := .ref (q 8)) (C := RX0) (T := TX0) (N := 10) hx hb hts hin hown hK hP 0 rfl rfl 9 (by decide) (hts (.fieldLink RX0 39 "SignRail" "keptSteps" "[I") (by decide +kernel)) (fun _ h9 => h9) rfl dX0_walk_52 ?_
      refine lv_iload_n hx hb dX0_walk_55 rfl (lv_at hl 2 rfl) ?_
      refine lv_aload_n hx hb dX0_walk_56 rfl (lv_at hl 1 rfl) ?_
      refine lv_iload_n hx hb dX0_walk_57 rfl (lv_at hl 2 rfl) ?_
      refine lv_iload hx hb dX0_walk_58 (lv_at hl 0 rfl) ?_
      refine k_callVi (As := [.int (nI p0), .int (nI (32768 * k + t))]) (rest := [.int (nI p0), .ref (q 8)]) ⟨hx, hb, hml, hown, hts⟩ (c_X0_stepsToArrive l D cI q sh sp ld nm tx ds ct co (nI (32768 * k + t)) (fa_fill (fun _ => (-2)) ks 8) p0 hp t k ht' hk5 T K Ld hG hLd hsh NT NK hN) (cwV 2 hts gX0_walk_X0_stepsToArrive rfl rfl rfl (by decide +kernel) ⟨Nat.le_of_ble_eq_true rfl, Nat.le_of_ble_eq_true rfl⟩) k_B_bl (k_B_of hP hK) (va_recv hK hP (ci := 0) (q0 := 0) rfl rfl) rfl hl.1 rfl (Nat.le_of_ble_eq_true rfl) dX0_walk_60 ⟨Nat.zero_le _, Nat.zero_le _⟩ ?_
      refine n_iast hx hb hK hP hD hS 8 0 rfl rfl (k := p0) (by omega) (Nat.le_of_ble_eq_true rfl) dX0_walk_63 (fun H locs hP hD hS => ?_)
      have hP : va_P D vwCl (wx cI q sh sp ld nm tx ds ct co (nI (32768 * k + t)) (upd (fa_fill (fun _ => (-2)) ks 8) p0 (sa (toldC sh ct ds K k t) Ld (arrC NK NT k t) 31 0 p0 tk0))) H := hP
      have hD : va_D _ (wx cI q sh sp ld nm tx ds ct co (nI (32768 * k + t)) (upd (fa_fill (fun _ => (-2)) ks 8) p0 (sa (toldC sh ct ds K k t) Ld (arrC NK NT k t) 31 0 p0 tk0))) := hD
      refine lv_aload_n hx hb dX0_walk_64 rfl (lv_at hl 1 rfl) ?_
      refine va_get (D := D) (ci := 0) (v := .ref (q 8)) (C := RX0) (T := TX0) (N := 10) hx hb hts hin hown hK hP 0 rfl rfl 9 (by decide) (hts (.fieldLink RX0 39 "SignRail" "keptSteps" "[I") (by decide +kernel)) (fun _ h9 => h9) rfl dX0_walk_65 ?_
      refine lv_iload_n hx hb dX0_walk_68 rfl (lv_at hl 2 rfl) ?_
      refine n_iald hx hb hK hP 8 0 rfl rfl (k := p0) (by omega) (Nat.le_of_ble_eq_true rfl) dX0_walk_69 ?_
      refine lv_as (y := sa (toldC sh ct ds K k t) Ld (arrC NK NT k t) 31 0 p0 tk0) (pk_us) ?_
      exact k_wiret ((nI (32768 * k + t), upd (fa_fill (fun _ => (-2)) ks 8) p0 (sa (toldC sh ct ds K k t) Ld (arrC NK NT k t) 31 0 p0 tk0)))  hx hb hr hlocks dX0_walk_70 (kp_upd (sf := fun gk gt p => sa (toldC sh ct ds K gk gt) Ld (arrC NK NT gk gt) 31 0 p tk0) hk5 htk rfl (fun v hv _ => Or.inl (fa_fill_in hv))) rfl hP hS (Nat.le_of_ble_eq_true rfl) (Nat.le_of_ble_eq_true rfl)
end
section
section KNEW
variable {p : Program} {l : Launch} {e : Env} {R : Room} {s : State} {m : MethodId} {args : Array Value} {below : List Frame} {meth : Method} {c : Code} {H H0 : Heap} {locs : List Loc} {cells slots : Nat} {Q : State → Prop}
variable {cc : ByteArray} {pc : Nat} {ls : Array Slot} {rest : List Value} {D : va_G} {cl : List vw_C} {tys : List (ClassId × FieldType)} {ws : va_W} {A : Nat → Prop}
theorem n_newa (hexec : p.tables.exec = Jvm.exec) (hb : c.code = cc) (harr : (Cond.arrayClass .int).before args s = true) (hK : va_K D cl tys s) (t0 : Nat) {cI : ClassId} (ht : tys[t0]? = some (cI, .int)) (hP : va_P D cl ws H) (hD : va_D A ws) (hS : va_S A H0 H locs) (hA : ∀ q, H0.size ≤ q → A q)
    {N' : Nat} (hN : N' < 2 ^ 31) (hbytes : N' * componentBytes .int ≤ 536870912) (hcells : cells + 1 ≤ R.cells) (hslots : slots + N' ≤ R.slots) (hdg : decode cc pc = .ok (.newarray .int, 2))
    (kk : ∀ (q : Nat) (H1 : Heap), va_P D cl (ws ++ [(q, .inl (cI, N', .inl (fun _ => nI 0)))]) H1 → va_D A (ws ++ [(q, .inl (cI, N', .inl (fun _ => nI 0)))]) → va_S A H0 H1 locs →
      W p l e R s m args below meth c H1 locs (cells + 1) (slots + N') Q (F0 m (pc + 2) ls (.ref q :: rest))) : W p l e R s m args below meth c H locs cells slots Q (F0 m pc ls (.int (nI N') :: rest)) := by
  refine va_newa (atype := .int) (ty := .int) (a0 := (N', .inl (fun _ => nI 0))) hexec hb harr rfl hK hP hD hS hA (fun _ => rfl) (nI_pos hN) (nI_clamp hN) hbytes hcells hslots hdg fun q cA H1 hK1 hP1 hD1 hS1 => ?_
  have h1 : va_RA s cI .int := (hK.2 t0 _ ht).2
  have h2 : va_RA s cA .int := (hK1.2 tys.length (cA, .int) (by rw [List.getElem?_append_right (Nat.le_refl _), Nat.sub_self]; rfl)).2
  have h3 : cA = cI := Option.some.inj ((show s.vm.findClass ("[" ++ FieldType.int.toString) = some cA from h2).symm.trans h1)
  subst h3
  exact kk q H1 hP1 hD1 hS1
end KNEW
abbrev k_q (L : List Nat) : Nat → Nat := fun n => L.getD n 0
abbrev wxF (h0 : Nat) : va_W := [(h0, .inr (0, [.null, .null, .null, .null, .null, .null, .null, .long 0, .int 0, .null]))]
abbrev z0 : Nat → Int32 := fun _ => nI 0
set_option maxHeartbeats 4000000 in
set_option maxRecDepth 100000 in
theorem c_X0_init (l : Launch) (D : va_G) (h0 sz : Nat) (hD0 : va_D (fun _ => True) (wxF h0)) : Met l yX0_init wsX0_init ({ frames := 1, cells := 8, slots := 344, locals := 23 } : Room) (k_P [.ref h0] (fun U => U.heap.size = sz ∧ va_P D vwCl (wxF h0) U.heap ∧ va_K D vwCl [] U)) (va_Qv (fun u : ClassId × (Nat → Nat) => u.2 0 = h0) (fun u t => va_P D vwCl (wx u.1 u.2 z0 (fa_fill (fun _ => nI 1) z0 64) (fa_fill (fun _ => -1) z0 32) z0 z0 z0 z0 0 (nI 0) z0) t.heap ∧ va_K D vwCl [(u.1, .int)] t ∧ va_D (va_A (wxF h0) sz) (wx u.1 u.2 z0 (fa_fill (fun _ => nI 1) z0 64) (fa_fill (fun _ => -1) z0 32) z0 z0 z0 z0 0 (nI 0) z0)) (va_A (wxF h0) sz)) 8 344 (va_A (wxF h0) sz) := by
  refine k_head (cc := cX0_init) (maxL := 1) (ret := none) [(0, .ref h0)] (by decide) rfl (Nat.le_of_ble_eq_true rfl) rfl ?_
  intro p e s m below meth c ls hx hb hr hml hown hts hlocks hname hB hl
  have hown : s.vm.findClass RX0 = some m.cls := hown
  have hname : meth.name = "<init>" := hname
  obtain ⟨hsz, hP, hK⟩ := hB
  subst hsz
  have hin : ∀ w ∈ wsX00, w ∈ wsX0_init := fun w h => List.mem_cons_of_mem _ (List.mem_append_right _ h)
  have hD := hD0.self (sz := s.heap.size)
  generalize hAe : va_A (wxF h0) s.heap.size = A at hD ⊢
  have hA : ∀ q : Nat, s.heap.size ≤ q → A q := fun q h => by rw [← hAe]; exact Or.inr h
  have hS : va_S A s.heap s.heap [] := va_S.rf
  have hP : va_P D vwCl (wxF h0) s.heap := hP
  refine lv_aload_n hx hb dX0_init_0 rfl (lv_at hl 0 rfl) ?_
  refine W.objInit hx hb hown (hts (.methodLink RX0 3 objectInit) (by decide +kernel)) (hts (.instanceMethod objectInit) (by decide +kernel)) (hts _ (List.mem_cons_of_mem _ (List.mem_append_left _ (List.mem_of_getElem? (i := 2) rfl)))) rfl (by rw [hml]; exact hl.1) rfl dX0_init_1 (Nat.le_of_ble_eq_true rfl) (Nat.le_of_ble_eq_true rfl) ?_
  refine W.eq (g2 := F0 m 4 ls []) rfl ?_
  refine lv_aload_n hx hb dX0_init_4 rfl (lv_at hl 0 rfl) ?_
  refine lv_bipush (v := nI 8) hx hb dX0_init_5 (by decide) ?_
  refine va_newa (atype := .int) (ty := .int) (N' := 8) (a0 := (8, .inl (fun _ => nI 0))) hx hb (hts (.arrayClass .int) (by decide +kernel)) rfl hK hP hD hS hA (fun _ => rfl) (nI_pos (by decide)) (nI_clamp (by decide)) (Nat.le_of_ble_eq_true rfl) (Nat.le_of_ble_eq_true rfl) (Nat.le_of_ble_eq_true rfl) dX0_init_7 (fun q1 cI H hK hP hD hS => ?_)
  have hK : va_K D vwCl [(cI, .int)] s := hK
  have hP : va_P D vwCl [(h0, .inr (0, [.null, .null, .null, .null, .null, .null, .null, .long 0, .int 0, .null])), (q1, .inl (cI, 8, .inl z0))] H := hP
  have hD : va_D A [(h0, .inr (0, [.null, .null, .null, .null, .null, .null, .null, .long 0, .int 0, .null])), (q1, .inl (cI, 8, .inl z0))] := hD
  refine va_putF (D := D) (ci := 0) (v := .ref q1) (ty := (.array .int)) (C := RX0) (T := TX0) (N := 10) hx hb hts hin tyX0 tyX0_ok nmX0 hown hK hP hD hS 0 rfl rfl 0 (by decide) (hts (.fieldLink RX0 9 "SignRail" "shapes" "[I") (by decide +kernel)) (fun _ h9 => h9) rfl hname rfl (by decide +kernel) rfl rfl (Nat.le_of_ble_eq_true rfl) dX0_init_9 (fun H locs hP hD hS => ?_)
  have hP : va_P D vwCl [(h0, .inr (0, [.ref q1, .null, .null, .null, .null, .null, .null, .long 0, .int 0, .null])), (q1, .inl (cI, 8, .inl z0))] H := hP
  have hD : va_D A [(h0, .inr (0, [.ref q1, .null, .null, .null, .null, .null, .null, .long 0, .int 0, .null])), (q1, .inl (cI, 8, .inl z0))] := hD
  refine lv_aload_n hx hb dX0_init_12 rfl (lv_at hl 0 rfl) ?_
  refine lv_bipush (v := nI 64) hx hb dX0_init_13 (by decide) ?_
  refine n_newa (N' := 64) hx hb (hts (.arrayClass .int) (by decide +kernel)) hK 0 rfl hP hD hS hA (by decide) (Nat.le_of_ble_eq_true rfl) (Nat.le_of_ble_eq_true rfl) (Nat.le_of_ble_eq_true rfl) dX0_init_15 (fun q2 H hP hD hS => ?_)
  have hP : va_P D vwCl [(h0, .inr (0, [.ref q1, .null, .null, .null, .null, .null, .null, .long 0, .int 0, .null])), (q1, .inl (cI, 8, .inl z0)), (q2, .inl (cI, 64, .inl z0))] H := hP
  have hD : va_D A [(h0, .inr (0, [.ref q1, .null, .null, .null, .null, .null, .null, .long 0, .int 0, .null])), (q1, .inl (cI, 8, .inl z0)), (q2, .inl (cI, 64, .inl z0))] := hD
  refine va_putF (D := D) (ci := 0) (v := .ref q2) (ty := (.array .int)) (C := RX0) (T := TX0) (N := 10) hx hb hts hin tyX0 tyX0_ok nmX0 hown hK hP hD hS 0 rfl rfl 1 (by decide) (hts (.fieldLink RX0 13 "SignRail" "spaces" "[I") (by decide +kernel)) (fun _ h9 => h9) rfl hname rfl (by decide +kernel) rfl rfl (Nat.le_of_ble_eq_true rfl) dX0_init_17 (fun H locs hP hD hS => ?_)
  have hP : va_P D vwCl [(h0, .inr (0, [.ref q1, .ref q2, .null, .null, .null, .null, .null, .long 0, .int 0, .null])), (q1, .inl (cI, 8, .inl z0)), (q2, .inl (cI, 64, .inl z0))] H := hP
  have hD : va_D A [(h0, .inr (0, [.ref q1, .ref q2, .null, .null, .null, .null, .null, .long 0, .int 0, .null])), (q1, .inl (cI, 8, .inl z0)), (q2, .inl (cI, 64, .inl z0))] := hD
  refine lv_aload_n hx hb dX0_init_20 rfl (lv_at hl 0 rfl) ?_
  refine lv_bipush (v := nI 32) hx hb dX0_init_21 (by decide) ?_
  refine n_newa (N' := 32) hx hb (hts (.arrayClass .int) (by decide +kernel)) hK 0 rfl hP hD hS hA (by decide) (Nat.le_of_ble_eq_true rfl) (Nat.le_of_ble_eq_true rfl) (Nat.le_of_ble_eq_true rfl) dX0_init_23 (fun q3 H hP hD hS => ?_)
  have hP : va_P D vwCl [(h0, .inr (0, [.ref q1, .ref q2, .null, .null, .null, .null, .null, .long 0, .int 0, .null])), (q1, .inl (cI, 8, .inl z0)), (q2, .inl (cI, 64, .inl z0)), (q3, .inl (cI, 32, .inl z0))] H := hP
  have hD : va_D A [(h0, .inr (0, [.ref q1, .ref q2, .null, .null, .null, .null, .null, .long 0, .int 0, .null])), (q1, .inl (cI, 8, .inl z0)), (q2, .inl (cI, 64, .inl z0)), (q3, .inl (cI, 32, .inl z0))] := hD
  refine va_putF (D := D) (ci := 0) (v := .ref q3) (ty := (.array .int)) (C := RX0) (T := TX0) (N := 10) hx hb hts hin tyX0 tyX0_ok nmX0 hown hK hP hD hS 0 rfl rfl 2 (by decide) (hts (.fieldLink RX0 16 "SignRail" "leads" "[I") (by decide +kernel)) (fun _ h9 => h9) rfl hname rfl (by decide +kernel) rfl rfl (Nat.le_of_ble_eq_true rfl) dX0_init_25 (fun H locs hP hD hS => ?_)
  have hP : va_P D vwCl [(h0, .inr (0, [.ref q1, .ref q2, .ref q3, .null, .null, .null, .null, .long 0, .int 0, .null])), (q1, .inl (cI, 8, .inl z0)), (q2, .inl (cI, 64, .inl z0)), (q3, .inl (cI, 32, .inl z0))] H := hP
  have hD : va_D A [(h0, .inr (0, [.ref q1, .ref q2, .ref q3, .null, .null, .null, .null, .long 0, .int 0, .null])), (q1, .inl (cI, 8, .inl z0)), (q2, .inl (cI, 64, .inl z0)), (q3, .inl (cI, 32, .inl z0))] := hD
  refine lv_aload_n hx hb dX0_init_28 rfl (lv_at hl 0 rfl) ?_
  refine lv_bipush (v := nI 8) hx hb dX0_init_29 (by decide) ?_
  refine n_newa (N' := 8) hx hb (hts (.arrayClass .int) (by decide +kernel)) hK 0 rfl hP hD hS hA (by decide) (Nat.le_of_ble_eq_true rfl) (Nat.le_of_ble_eq_true rfl) (Nat.le_of_ble_eq_true rfl) dX0_init_31 (fun q4 H hP hD hS => ?_)
  have hP : va_P D vwCl [(h0, .inr (0, [.ref q1, .ref q2, .ref q3, .null, .null, .null, .null, .long 0, .int 0, .null])), (q1, .inl (cI, 8, .inl z0)), (q2, .inl (cI, 64, .inl z0)), (q3, .inl (cI, 32, .inl z0)), (q4, .inl (cI, 8, .inl z0))] H := hP
  have hD : va_D A [(h0, .inr (0, [.ref q1, .ref q2, .ref q3, .null, .null, .null, .null, .long 0, .int 0, .null])), (q1, .inl (cI, 8, .inl z0)), (q2, .inl (cI, 64, .inl z0)), (q3, .inl (cI, 32, .inl z0)), (q4, .inl (cI, 8, .inl z0))] := hD
  refine va_putF (D := D) (ci := 0) (v := .ref q4) (ty := (.array .int)) (C := RX0) (T := TX0) (N := 10) hx hb hts hin tyX0 tyX0_ok nmX0 hown hK hP hD hS 0 rfl rfl 3 (by decide) (hts (.fieldLink RX0 19 "SignRail" "names" "[I") (by decide +kernel)) (fun _ h9 => h9) rfl hname rfl (by decide +kernel) rfl rfl (Nat.le_of_ble_eq_true rfl) dX0_init_33 (fun H locs hP hD hS => ?_)
  have hP : va_P D vwCl [(h0, .inr (0, [.ref q1, .ref q2, .ref q3, .ref q4, .null, .null, .null, .long 0, .int 0, .null])), (q1, .inl (cI, 8, .inl z0)), (q2, .inl (cI, 64, .inl z0)), (q3, .inl (cI, 32, .inl z0)), (q4, .inl (cI, 8, .inl z0))] H := hP
  have hD : va_D A [(h0, .inr (0, [.ref q1, .ref q2, .ref q3, .ref q4, .null, .null, .null, .long 0, .int 0, .null])), (q1, .inl (cI, 8, .inl z0)), (q2, .inl (cI, 64, .inl z0)), (q3, .inl (cI, 32, .inl z0)), (q4, .inl (cI, 8, .inl z0))] := hD
  refine lv_aload_n hx hb dX0_init_36 rfl (lv_at hl 0 rfl) ?_
  refine lv_bipush (v := nI 32) hx hb dX0_init_37 (by decide) ?_
  refine n_newa (N' := 32) hx hb (hts (.arrayClass .int) (by decide +kernel)) hK 0 rfl hP hD hS hA (by decide) (Nat.le_of_ble_eq_true rfl) (Nat.le_of_ble_eq_true rfl) (Nat.le_of_ble_eq_true rfl) dX0_init_39 (fun q5 H hP hD hS => ?_)
  have hP : va_P D vwCl [(h0, .inr (0, [.ref q1, .ref q2, .ref q3, .ref q4, .null, .null, .null, .long 0, .int 0, .null])), (q1, .inl (cI, 8, .inl z0)), (q2, .inl (cI, 64, .inl z0)), (q3, .inl (cI, 32, .inl z0)), (q4, .inl (cI, 8, .inl z0)), (q5, .inl (cI, 32, .inl z0))] H := hP
  have hD : va_D A [(h0, .inr (0, [.ref q1, .ref q2, .ref q3, .ref q4, .null, .null, .null, .long 0, .int 0, .null])), (q1, .inl (cI, 8, .inl z0)), (q2, .inl (cI, 64, .inl z0)), (q3, .inl (cI, 32, .inl z0)), (q4, .inl (cI, 8, .inl z0)), (q5, .inl (cI, 32, .inl z0))] := hD
  refine va_putF (D := D) (ci := 0) (v := .ref q5) (ty := (.array .int)) (C := RX0) (T := TX0) (N := 10) hx hb hts hin tyX0 tyX0_ok nmX0 hown hK hP hD hS 0 rfl rfl 4 (by decide) (hts (.fieldLink RX0 22 "SignRail" "signTexts" "[I") (by decide +kernel)) (fun _ h9 => h9) rfl hname rfl (by decide +kernel) rfl rfl (Nat.le_of_ble_eq_true rfl) dX0_init_41 (fun H locs hP hD hS => ?_)
  have hP : va_P D vwCl [(h0, .inr (0, [.ref q1, .ref q2, .ref q3, .ref q4, .ref q5, .null, .null, .long 0, .int 0, .null])), (q1, .inl (cI, 8, .inl z0)), (q2, .inl (cI, 64, .inl z0)), (q3, .inl (cI, 32, .inl z0)), (q4, .inl (cI, 8, .inl z0)), (q5, .inl (cI, 32, .inl z0))] H := hP
  have hD : va_D A [(h0, .inr (0, [.ref q1, .ref q2, .ref q3, .ref q4, .ref q5, .null, .null, .long 0, .int 0, .null])), (q1, .inl (cI, 8, .inl z0)), (q2, .inl (cI, 64, .inl z0)), (q3, .inl (cI, 32, .inl z0)), (q4, .inl (cI, 8, .inl z0)), (q5, .inl (cI, 32, .inl z0))] := hD
  refine lv_aload_n hx hb dX0_init_44 rfl (lv_at hl 0 rfl) ?_
  refine lv_bipush (v := nI 32) hx hb dX0_init_45 (by decide) ?_
  refine n_newa (N' := 32) hx hb (hts (.arrayClass .int) (by decide +kernel)) hK 0 rfl hP hD hS hA (by decide) (Nat.le_of_ble_eq_true rfl) (Nat.le_of_ble_eq_true rfl) (Nat.le_of_ble_eq_true rfl) dX0_init_47 (fun q6 H hP hD hS => ?_)
  have hP : va_P D vwCl [(h0, .inr (0, [.ref q1, .ref q2, .ref q3, .ref q4, .ref q5, .null, .null, .long 0, .int 0, .null])), (q1, .inl (cI, 8, .inl z0)), (q2, .inl (cI, 64, .inl z0)), (q3, .inl (cI, 32, .inl z0)), (q4, .inl (cI, 8, .inl z0)), (q5, .inl (cI, 32, .inl z0)), (q6, .inl (cI, 32, .inl z0))] H := hP
  have hD : va_D A [(h0, .inr (0, [.ref q1, .ref q2, .ref q3, .ref q4, .ref q5, .null, .null, .long 0, .int 0, .null])), (q1, .inl (cI, 8, .inl z0)), (q2, .inl (cI, 64, .inl z0)), (q3, .inl (cI, 32, .inl z0)), (q4, .inl (cI, 8, .inl z0)), (q5, .inl (cI, 32, .inl z0)), (q6, .inl (cI, 32, .inl z0))] := hD
  refine va_putF (D := D) (ci := 0) (v := .ref q6) (ty := (.array .int)) (C := RX0) (T := TX0) (N := 10) hx hb hts hin tyX0 tyX0_ok nmX0 hown hK hP hD hS 0 rfl rfl 5 (by decide) (hts (.fieldLink RX0 25 "SignRail" "signDistances" "[I") (by decide +kernel)) (fun _ h9 => h9) rfl hname rfl (by decide +kernel) rfl rfl (Nat.le_of_ble_eq_true rfl) dX0_init_49 (fun H locs hP hD hS => ?_)
  have hP : va_P D vwCl [(h0, .inr (0, [.ref q1, .ref q2, .ref q3, .ref q4, .ref q5, .ref q6, .null, .long 0, .int 0, .null])), (q1, .inl (cI, 8, .inl z0)), (q2, .inl (cI, 64, .inl z0)), (q3, .inl (cI, 32, .inl z0)), (q4, .inl (cI, 8, .inl z0)), (q5, .inl (cI, 32, .inl z0)), (q6, .inl (cI, 32, .inl z0))] H := hP
  have hD : va_D A [(h0, .inr (0, [.ref q1, .ref q2, .ref q3, .ref q4, .ref q5, .ref q6, .null, .long 0, .int 0, .null])), (q1, .inl (cI, 8, .inl z0)), (q2, .inl (cI, 64, .inl z0)), (q3, .inl (cI, 32, .inl z0)), (q4, .inl (cI, 8, .inl z0)), (q5, .inl (cI, 32, .inl z0)), (q6, .inl (cI, 32, .inl z0))] := hD
  refine lv_aload_n hx hb dX0_init_52 rfl (lv_at hl 0 rfl) ?_
  refine lv_sipush (v := nI 160) hx hb dX0_init_53 (by decide) ?_
  refine n_newa (N' := 160) hx hb (hts (.arrayClass .int) (by decide +kernel)) hK 0 rfl hP hD hS hA (by decide) (Nat.le_of_ble_eq_true rfl) (Nat.le_of_ble_eq_true rfl) (Nat.le_of_ble_eq_true rfl) dX0_init_56 (fun q7 H hP hD hS => ?_)
  have hP : va_P D vwCl [(h0, .inr (0, [.ref q1, .ref q2, .ref q3, .ref q4, .ref q5, .ref q6, .null, .long 0, .int 0, .null])), (q1, .inl (cI, 8, .inl z0)), (q2, .inl (cI, 64, .inl z0)), (q3, .inl (cI, 32, .inl z0)), (q4, .inl (cI, 8, .inl z0)), (q5, .inl (cI, 32, .inl z0)), (q6, .inl (cI, 32, .inl z0)), (q7, .inl (cI, 160, .inl z0))] H := hP
  have hD : va_D A [(h0, .inr (0, [.ref q1, .ref q2, .ref q3, .ref q4, .ref q5, .ref q6, .null, .long 0, .int 0, .null])), (q1, .inl (cI, 8, .inl z0)), (q2, .inl (cI, 64, .inl z0)), (q3, .inl (cI, 32, .inl z0)), (q4, .inl (cI, 8, .inl z0)), (q5, .inl (cI, 32, .inl z0)), (q6, .inl (cI, 32, .inl z0)), (q7, .inl (cI, 160, .inl z0))] := hD
  refine va_putF (D := D) (ci := 0) (v := .ref q7) (ty := (.array .int)) (C := RX0) (T := TX0) (N := 10) hx hb hts hin tyX0 tyX0_ok nmX0 hown hK hP hD hS 0 rfl rfl 6 (by decide) (hts (.fieldLink RX0 28 "SignRail" "signShapes" "[I") (by decide +kernel)) (fun _ h9 => h9) rfl hname rfl (by decide +kernel) rfl rfl (Nat.le_of_ble_eq_true rfl) dX0_init_58 (fun H locs hP hD hS => ?_)
  have hP : va_P D vwCl [(h0, .inr (0, [.ref q1, .ref q2, .ref q3, .ref q4, .ref q5, .ref q6, .ref q7, .long 0, .int 0, .null])), (q1, .inl (cI, 8, .inl z0)), (q2, .inl (cI, 64, .inl z0)), (q3, .inl (cI, 32, .inl z0)), (q4, .inl (cI, 8, .inl z0)), (q5, .inl (cI, 32, .inl z0)), (q6, .inl (cI, 32, .inl z0)), (q7, .inl (cI, 160, .inl z0))] H := hP
  have hD : va_D A [(h0, .inr (0, [.ref q1, .ref q2, .ref q3, .ref q4, .ref q5, .ref q6, .ref q7, .long 0, .int 0, .null])), (q1, .inl (cI, 8, .inl z0)), (q2, .inl (cI, 64, .inl z0)), (q3, .inl (cI, 32, .inl z0)), (q4, .inl (cI, 8, .inl z0)), (q5, .inl (cI, 32, .inl z0)), (q6, .inl (cI, 32, .inl z0)), (q7, .inl (cI, 160, .inl z0))] := hD
  refine lv_aload_n hx hb dX0_init_61 rfl (lv_at hl 0 rfl) ?_
  refine lv_lconst (v := 0) hx hb dX0_init_62 (by decide) ?_
  refine va_put (D := D) (ci := 0) (v := .long 0) (ty := .long) (C := RX0) (T := TX0) (N := 10) hx hb hts hin tyX0 tyX0_ok nmX0 hown hK hP hD hS 0 rfl rfl 7 (by decide) (hts (.fieldLink RX0 31 "SignRail" "costSoFar" "J") (by decide +kernel)) (fun _ h9 => h9) rfl (by decide +kernel) rfl rfl (Nat.le_of_ble_eq_true rfl) dX0_init_63 (fun H locs hP hD hS => ?_)
  have hP : va_P D vwCl [(h0, .inr (0, [.ref q1, .ref q2, .ref q3, .ref q4, .ref q5, .ref q6, .ref q7, .long 0, .int 0, .null])), (q1, .inl (cI, 8, .inl z0)), (q2, .inl (cI, 64, .inl z0)), (q3, .inl (cI, 32, .inl z0)), (q4, .inl (cI, 8, .inl z0)), (q5, .inl (cI, 32, .inl z0)), (q6, .inl (cI, 32, .inl z0)), (q7, .inl (cI, 160, .inl z0))] H := hP
  have hD : va_D A [(h0, .inr (0, [.ref q1, .ref q2, .ref q3, .ref q4, .ref q5, .ref q6, .ref q7, .long 0, .int 0, .null])), (q1, .inl (cI, 8, .inl z0)), (q2, .inl (cI, 64, .inl z0)), (q3, .inl (cI, 32, .inl z0)), (q4, .inl (cI, 8, .inl z0)), (q5, .inl (cI, 32, .inl z0)), (q6, .inl (cI, 32, .inl z0)), (q7, .inl (cI, 160, .inl z0))] := hD
  refine lv_aload_n hx hb dX0_init_66 rfl (lv_at hl 0 rfl) ?_
  refine lv_iconst (v := nI 0) hx hb dX0_init_67 (by decide) ?_
  refine va_put (D := D) (ci := 0) (v := .int (nI 0)) (ty := .int) (C := RX0) (T := TX0) (N := 10) hx hb hts hin tyX0 tyX0_ok nmX0 hown hK hP hD hS 0 rfl rfl 8 (by decide) (hts (.fieldLink RX0 35 "SignRail" "keptGoal" "I") (by decide +kernel)) (fun _ h9 => h9) rfl (by decide +kernel) rfl rfl (Nat.le_of_ble_eq_true rfl) dX0_init_68 (fun H locs hP hD hS => ?_)
  have hP : va_P D vwCl [(h0, .inr (0, [.ref q1, .ref q2, .ref q3, .ref q4, .ref q5, .ref q6, .ref q7, .long 0, .int (nI 0), .null])), (q1, .inl (cI, 8, .inl z0)), (q2, .inl (cI, 64, .inl z0)), (q3, .inl (cI, 32, .inl z0)), (q4, .inl (cI, 8, .inl z0)), (q5, .inl (cI, 32, .inl z0)), (q6, .inl (cI, 32, .inl z0)), (q7, .inl (cI, 160, .inl z0))] H := hP
  have hD : va_D A [(h0, .inr (0, [.ref q1, .ref q2, .ref q3, .ref q4, .ref q5, .ref q6, .ref q7, .long 0, .int (nI 0), .null])), (q1, .inl (cI, 8, .inl z0)), (q2, .inl (cI, 64, .inl z0)), (q3, .inl (cI, 32, .inl z0)), (q4, .inl (cI, 8, .inl z0)), (q5, .inl (cI, 32, .inl z0)), (q6, .inl (cI, 32, .inl z0)), (q7, .inl (cI, 160, .inl z0))] := hD
  refine lv_aload_n hx hb dX0_init_71 rfl (lv_at hl 0 rfl) ?_
  refine lv_bipush (v := nI 8) hx hb dX0_init_72 (by decide) ?_
  refine n_newa (N' := 8) hx hb (hts (.arrayClass .int) (by decide +kernel)) hK 0 rfl hP hD hS hA (by decide) (Nat.le_of_ble_eq_true rfl) (Nat.le_of_ble_eq_true rfl) (Nat.le_of_ble_eq_true rfl) dX0_init_74 (fun q8 H hP hD hS => ?_)
  have hP : va_P D vwCl [(h0, .inr (0, [.ref q1, .ref q2, .ref q3, .ref q4, .ref q5, .ref q6, .ref q7, .long 0, .int (nI 0), .null])), (q1, .inl (cI, 8, .inl z0)), (q2, .inl (cI, 64, .inl z0)), (q3, .inl (cI, 32, .inl z0)), (q4, .inl (cI, 8, .inl z0)), (q5, .inl (cI, 32, .inl z0)), (q6, .inl (cI, 32, .inl z0)), (q7, .inl (cI, 160, .inl z0)), (q8, .inl (cI, 8, .inl z0))] H := hP
  have hD : va_D A [(h0, .inr (0, [.ref q1, .ref q2, .ref q3, .ref q4, .ref q5, .ref q6, .ref q7, .long 0, .int (nI 0), .null])), (q1, .inl (cI, 8, .inl z0)), (q2, .inl (cI, 64, .inl z0)), (q3, .inl (cI, 32, .inl z0)), (q4, .inl (cI, 8, .inl z0)), (q5, .inl (cI, 32, .inl z0)), (q6, .inl (cI, 32, .inl z0)), (q7, .inl (cI, 160, .inl z0)), (q8, .inl (cI, 8, .inl z0))] := hD
  refine va_putF (D := D) (ci := 0) (v := .ref q8) (ty := (.array .int)) (C := RX0) (T := TX0) (N := 10) hx hb hts hin tyX0 tyX0_ok nmX0 hown hK hP hD hS 0 rfl rfl 9 (by decide) (hts (.fieldLink RX0 39 "SignRail" "keptSteps" "[I") (by decide +kernel)) (fun _ h9 => h9) rfl hname rfl (by decide +kernel) rfl rfl (Nat.le_of_ble_eq_true rfl) dX0_init_76 (fun H locs hP hD hS => ?_)
  have hP : va_P D vwCl [(h0, .inr (0, [.ref q1, .ref q2, .ref q3, .ref q4, .ref q5, .ref q6, .ref q7, .long 0, .int (nI 0), .ref q8])), (q1, .inl (cI, 8, .inl z0)), (q2, .inl (cI, 64, .inl z0)), (q3, .inl (cI, 32, .inl z0)), (q4, .inl (cI, 8, .inl z0)), (q5, .inl (cI, 32, .inl z0)), (q6, .inl (cI, 32, .inl z0)), (q7, .inl (cI, 160, .inl z0)), (q8, .inl (cI, 8, .inl z0))] H := hP
  have hD : va_D A [(h0, .inr (0, [.ref q1, .ref q2, .ref q3, .ref q4, .ref q5, .ref q6, .ref q7, .long 0, .int (nI 0), .ref q8])), (q1, .inl (cI, 8, .inl z0)), (q2, .inl (cI, 64, .inl z0)), (q3, .inl (cI, 32, .inl z0)), (q4, .inl (cI, 8, .inl z0)), (q5, .inl (cI, 32, .inl z0)), (q6, .inl (cI, 32, .inl z0)), (q7, .inl (cI, 160, .inl z0)), (q8, .inl (cI, 8, .inl z0))] := hD
  have hP : va_P D vwCl (wx cI (k_q [h0, q1, q2, q3, q4, q5, q6, q7, q8]) z0 z0 z0 z0 z0 z0 z0 0 (nI 0) z0) H := hP
  have hD : va_D A (wx cI (k_q [h0, q1, q2, q3, q4, q5, q6, q7, q8]) z0 z0 z0 z0 z0 z0 z0 0 (nI 0) z0) := hD
  refine lv_aload_n hx hb dX0_init_79 rfl (lv_at hl 0 rfl) ?_
  refine va_get (D := D) (ci := 0) (v := .ref q2) (C := RX0) (T := TX0) (N := 10) hx hb hts hin hown hK hP 0 rfl rfl 1 (by decide) (hts (.fieldLink RX0 13 "SignRail" "spaces" "[I") (by decide +kernel)) (fun _ h9 => h9) rfl dX0_init_80 ?_
  refine lv_iconst (v := (nI 1)) hx hb dX0_init_83 (by decide) ?_
  refine k_callSW (wr := [(h0, .inr (0, [.ref q1, .ref q2, .ref q3, .ref q4, .ref q5, .ref q6, .ref q7, .long 0, .int (nI 0), .ref q8])), (q1, .inl (cI, 8, .inl z0)), (q3, .inl (cI, 32, .inl z0)), (q4, .inl (cI, 8, .inl z0)), (q5, .inl (cI, 32, .inl z0)), (q6, .inl (cI, 32, .inl z0)), (q7, .inl (cI, 160, .inl z0)), (q8, .inl (cI, 8, .inl z0))]) (As := [.ref q2, .int (nI 1)]) (rest := []) ⟨hx, hb, hml, hown, hts⟩ (c_fill l D cI q2 64 z0 (nI 1) (by decide)) (va_cwS 2 hts gX0_init_J7_fill_53178 rfl rfl rfl (by decide +kernel) ⟨Nat.le_of_ble_eq_true rfl, Nat.le_of_ble_eq_true rfl⟩) k_B_bl (k_B_of (hP.sub [2] rfl) hK) rfl hl.1 rfl (Nat.le_of_ble_eq_true rfl) dX0_init_84 ⟨Nat.le_of_ble_eq_true rfl, Nat.le_of_ble_eq_true rfl⟩ hP hD hS [0, 1, 3, 4, 5, 6, 7, 8] [2] rfl rfl (fun _ => rfl) (fun u_79 H locs hu_79 hP hD hS hsz hkp => ?_)
  have hP : va_P D vwCl (wx cI (k_q [h0, q1, q2, q3, q4, q5, q6, q7, q8]) z0 (fa_fill (fun _ => nI 1) z0 64) z0 z0 z0 z0 z0 0 (nI 0) z0) H := hP.sub [0, 1, 8, 2, 3, 4, 5, 6, 7] rfl
  have hD : va_D A (wx cI (k_q [h0, q1, q2, q3, q4, q5, q6, q7, q8]) z0 (fa_fill (fun _ => nI 1) z0 64) z0 z0 z0 z0 z0 0 (nI 0) z0) := hD.sub [0, 1, 8, 2, 3, 4, 5, 6, 7] (by decide) rfl
  refine lv_aload_n hx hb dX0_init_87 rfl (lv_at hl 0 rfl) ?_
  refine va_get (D := D) (ci := 0) (v := .ref q3) (C := RX0) (T := TX0) (N := 10) hx hb hts hin hown hK hP 0 rfl rfl 2 (by decide) (hts (.fieldLink RX0 16 "SignRail" "leads" "[I") (by decide +kernel)) (fun _ h9 => h9) rfl dX0_init_88 ?_
  refine lv_iconst (v := (-1)) hx hb dX0_init_91 (by decide) ?_
  refine k_callSW (wr := [(h0, .inr (0, [.ref q1, .ref q2, .ref q3, .ref q4, .ref q5, .ref q6, .ref q7, .long 0, .int (nI 0), .ref q8])), (q1, .inl (cI, 8, .inl z0)), (q2, .inl (cI, 64, .inl (fa_fill (fun _ => nI 1) z0 64))), (q4, .inl (cI, 8, .inl z0)), (q5, .inl (cI, 32, .inl z0)), (q6, .inl (cI, 32, .inl z0)), (q7, .inl (cI, 160, .inl z0)), (q8, .inl (cI, 8, .inl z0))]) (As := [.ref q3, .int (-1)]) (rest := []) ⟨hx, hb, hml, hown, hts⟩ (c_fill l D cI q3 32 z0 (-1) (by decide)) (va_cwS 2 hts gX0_init_J7_fill_53178 rfl rfl rfl (by decide +kernel) ⟨Nat.le_of_ble_eq_true rfl, Nat.le_of_ble_eq_true rfl⟩) k_B_bl (k_B_of (hP.sub [3] rfl) hK) rfl hl.1 rfl (Nat.le_of_ble_eq_true rfl) dX0_init_92 ⟨Nat.le_of_ble_eq_true rfl, Nat.le_of_ble_eq_true rfl⟩ hP hD hS [0, 1, 2, 4, 5, 6, 7, 8] [3] rfl rfl (fun _ => rfl) (fun u_87 H locs hu_87 hP hD hS hsz hkp => ?_)
  have hP : va_P D vwCl (wx cI (k_q [h0, q1, q2, q3, q4, q5, q6, q7, q8]) z0 (fa_fill (fun _ => nI 1) z0 64) (fa_fill (fun _ => -1) z0 32) z0 z0 z0 z0 0 (nI 0) z0) H := hP.sub [0, 1, 2, 8, 3, 4, 5, 6, 7] rfl
  have hD : va_D A (wx cI (k_q [h0, q1, q2, q3, q4, q5, q6, q7, q8]) z0 (fa_fill (fun _ => nI 1) z0 64) (fa_fill (fun _ => -1) z0 32) z0 z0 z0 z0 0 (nI 0) z0) := hD.sub [0, 1, 2, 8, 3, 4, 5, 6, 7] (by decide) rfl
  refine W.widen (k := 8) (n := 344) (Nat.le_of_ble_eq_true rfl) (Nat.le_of_ble_eq_true rfl) ?_
  exact W.vret hx hb hr (fun t ht hW => ⟨⟨(cI, k_q [h0, q1, q2, q3, q4, q5, q6, q7, q8]), rfl, rfl, by rw [ht]; exact hP, va_K.moved hW.alike hK, hD⟩, hS.F ht⟩) hS.2.2 dX0_init_95 hlocks
theorem nI_nlt_m1 {j : Nat} (h : j < 2 ^ 31) : ¬ nI j < -1 := fun q => nI_pos h (by
  rw [fa_lt] at q ⊢
  have h1 : (-1 : Int32).toInt = -1 := by decide
  have h2 : (0 : Int32).toInt = 0 := by decide
  omega)
section KSCR
variable {p : Program} {l : Launch} {e : Env} {R : Room} {s : State} {m : MethodId} {args : Array Value} {below : List Frame} {meth : Method} {c : Code} {H : Heap} {locs : List Loc} {cells slots : Nat} {Q : State → Prop}
variable {cc : ByteArray} {pc : Nat} {ls : Array Slot} {rest : List Value}
theorem n_sld (hexec : p.tables.exec = Jvm.exec) (hb : c.code = cc) {bb L : Nat} {xs : Nat → Int32} {A : Nat → Prop} {H0 : Heap} (hX : va_X bb L xs s H0) (hbl : bb < H0.size) (hbA : ¬ A bb) (hS : va_S A H0 H locs) {k : Nat} (hk : k < L) (hL : L < 2 ^ 31) (hdg : decode cc pc = .ok (.iaload, 1))
    (kk : W p l e R s m args below meth c H locs cells slots Q (F0 m (pc + 1) ls (.int (xs k) :: rest))) : W p l e R s m args below meth c H locs cells slots Q (F0 m pc ls (.int (nI k) :: .ref bb :: rest)) :=
  va_sld hexec hb hX hbl hbA hS (vp_in_nI hk hL) hdg (by rw [nI_clamp (Nat.lt_trans hk hL)]; exact kk)
end KSCR
def k_X (b L : Nat) (xs : Nat → Int32) : State → Prop := fun U => va_X b L xs U U.heap ∧ b < U.heap.size
theorem k_X_bl {b L : Nat} {xs : Nat → Int32} : k_bl (k_X b L xs) := fun a U g mk h => ⟨va_X.moved (u := U) (U := U.calling g mk a) (Vm.Alike.refl U.vm) h.1, h.2⟩
theorem k_X_of {b L : Nat} {xs : Nat → Int32} {s : State} {A : Nat → Prop} {H : Heap} {locs : List Loc} (hX : va_X b L xs s s.heap) (hbl : b < s.heap.size) (hbA : ¬ A b) (hS : va_S A s.heap H locs) : ∀ U : State, U.heap = H → s.WarmedH U.vm → k_X b L xs U := fun U hU hW => ⟨by rw [hU]; exact va_X.moved hW.alike (hX.kept (hS.2.1 b hbl hbA)), by rw [hU]; exact Nat.lt_of_lt_of_le hbl hS.1⟩
def cellN (k : Nat) : Int32 := nI (7919 * (k + 3) * (k + 11))
def cellG (L : Nat) (xs : Nat → Int32) (k : Nat) : Int32 := if k < L then xs k else cellN k
set_option maxHeartbeats 4000000 in
set_option maxRecDepth 100000 in
theorem c_L_cell (l : Launch) (b L : Nat) (xs : Nat → Int32) (k : Nat) (hk : k < 1000) (hL : L < 1000) : k_M l yL_cell wsL_cell ({ frames := 0, cells := 0, slots := 0, locals := 0 } : Room) [.ref b, .int (nI k)] (k_X b L xs) (some (.int (cellG L xs k))) := by
  refine k_head (cc := cL_cell) (maxL := 2) (ret := some .int) [(0, .ref b), (1, .int (nI k))] (by decide) rfl (Nat.le_of_ble_eq_true rfl) rfl ?_
  intro p e s m below meth c ls hx hb hr hml hown hts hlocks hname hB hl
  obtain ⟨hX, hbl⟩ := hB
  have hbA : ¬ k_N b := fun q => q
  have hS : va_S k_N s.heap s.heap [] := va_S.rf
  refine lv_iload_n hx hb dL_cell_0 rfl (lv_at hl 1 rfl) ?_
  refine lv_aload_n hx hb dL_cell_1 rfl (lv_at hl 0 rfl) ?_
  refine va_slen hx hb hX hbl hbA hS dL_cell_2 ?_
  refine n_icmp_ge (tgt := 12) hx hb dL_cell_3 (by decide) (by omega) (by omega) (fun c_3 => ?_) (fun c_3 => ?_)
  · refine lv_sipush (v := nI 7919) hx hb dL_cell_12 (by decide) ?_
    refine lv_iload_n hx hb dL_cell_15 rfl (lv_at hl 1 rfl) ?_
    refine lv_iconst (v := nI 3) hx hb dL_cell_16 (by decide) ?_
    refine lv_iadd hx hb dL_cell_17 ?_
    refine lv_as (y := nI (k + 3)) (nI_add _ _) ?_
    refine lv_imul hx hb dL_cell_18 ?_
    refine lv_as (y := nI (7919 * (k + 3))) (pk_mul _ _) ?_
    refine lv_iload_n hx hb dL_cell_19 rfl (lv_at hl 1 rfl) ?_
    refine lv_bipush (v := nI 11) hx hb dL_cell_20 (by decide) ?_
    refine lv_iadd hx hb dL_cell_22 ?_
    refine lv_as (y := nI (k + 11)) (nI_add _ _) ?_
    refine lv_imul hx hb dL_cell_23 ?_
    refine lv_as (y := nI ((7919 * (k + 3)) * (k + 11))) (pk_mul _ _) ?_
    exact k_iret hx hb hr hlocks dL_cell_24 ((if_neg (Nat.not_lt.mpr c_3)).symm)
  · refine lv_aload_n hx hb dL_cell_6 rfl (lv_at hl 0 rfl) ?_
    refine lv_iload_n hx hb dL_cell_7 rfl (lv_at hl 1 rfl) ?_
    refine n_sld hx hb hX hbl hbA hS (k := k) (by omega) (by omega) dL_cell_8 ?_
    refine lv_goto (tgt := 24) hx hb dL_cell_9 (by decide) ?_
    exact k_iret hx hb hr hlocks dL_cell_24 ((if_pos c_3).symm)
set_option maxHeartbeats 4000000 in
set_option maxRecDepth 100000 in
theorem c_L_low (l : Launch) (v : Int32) (n : Nat) (h0 : 0 < n) (hn : n < 2 ^ 31) : k_M l yL_low wsL_low ({ frames := 0, cells := 0, slots := 0, locals := 0 } : Room) [.int v, .int (nI n)] k_tt (some (.int (nI (lowN v n)))) := by
  refine k_head (cc := cL_low) (maxL := 2) (ret := some .int) [(0, .int v), (1, .int (nI n))] (by decide) rfl (Nat.le_of_ble_eq_true rfl) rfl ?_
  intro p e s m below meth c ls hx hb hr hml hown hts hlocks hname hB hl
  have hown : s.vm.findClass RL = some m.cls := hown
  refine lv_iload_n hx hb dL_low_0 rfl (lv_at hl 0 rfl) ?_
  refine lv_ldc (own := RL) (v := 2147483647) hx hb hown (hts (.constant RL 7 (2147483647)) (by decide +kernel)) dL_low_1 ?_
  refine lv_iand hx hb dL_low_3 ?_
  refine lv_as (y := nI (v.toBitVec.toNat % 2147483648)) (low_and v) ?_
  refine lv_iload_n hx hb dL_low_4 rfl (lv_at hl 1 rfl) ?_
  refine lv_irem hx hb dL_low_5 (nI_ne0 (by omega) (by omega)) ?_
  refine lv_as (y := nI ((v.toBitVec.toNat % 2147483648) % n)) (pk_rem (by omega) (by omega) (by omega)) ?_
  exact k_iret hx hb hr hlocks dL_low_6 (rfl)
set_option maxHeartbeats 4000000 in
set_option maxRecDepth 100000 in
theorem c_L_isWalk (l : Launch) (D : va_G) (cI : ClassId) (q : Nat → Nat) (sh sp ld nm tx ds ct : Nat → Int32) (co : Int64) (kg : Int32) (ks : Nat → Int32) (p0 : Nat) (hp : p0 < 8) (t k : Nat) (hk1 : 1 ≤ k) (hk5 : k ≤ 5) (htk : t < 8 ^ k) (T K : Nat → Nat) (hG : ∀ w, w < 32 → T w < 32768 ∧ K w ≤ 5 ∧ tx w = nI (32768 * K w + T w) ∧ ∀ j, j < K w → S25 (ct (w * 5 + j))) (Ld : Nat → Nat) (hLd : ∀ w, w < 32 → Ld w ≤ 8 ∧ ld w = ix (Ld w)) (hsh : ∀ g, g < 8 → S25 (sh g)) (NT NK : Nat → Nat) (hN : ∀ p, p < 8 → NT p < 32768 ∧ NK p ≤ 5 ∧ nm p = nI (32768 * NK p + NT p)) (hKp : kpOK (fun gk gt p => sa (toldC sh ct ds K gk gt) Ld (arrC NK NT gk gt) 31 0 p tk0) kg ks) (hDt : va_D (fun _ => True) (wx cI q sh sp ld nm tx ds ct co kg ks)) : Met l yL_isWalk wsL_isWalk ({ frames := 8, cells := 0, slots := 0, locals := 192 } : Room) (k_P [.ref (q 0), .int (nI p0), .int (nI t), .int (nI k)] (k_B D (wx cI q sh sp ld nm tx ds ct co kg ks) [(cI, .int)])) (k_WQ D (wx cI q sh sp ld nm tx ds ct co kg ks) (fun u : Int32 × (Nat → Int32) => kpOK (fun gk gt p => sa (toldC sh ct ds K gk gt) Ld (arrC NK NT gk gt) 31 0 p tk0) u.1 u.2) (fun u => wx cI q sh sp ld nm tx ds ct co u.1 u.2) (fun _ => some (.int (nI 1)))) 0 0 (k_A (wx cI q sh sp ld nm tx ds ct co kg ks)) := by
  refine k_head (cc := cL_isWalk) (maxL := 7) (ret := some .boolean) [(0, .ref (q 0)), (1, .int (nI p0)), (2, .int (nI t)), (3, .int (nI k))] (by decide) rfl (Nat.le_of_ble_eq_true rfl) rfl ?_
  intro p e s m below meth c ls hx hb hr hml hown hts hlocks hname hB hl
  have hown : s.vm.findClass RL = some m.cls := hown
  obtain ⟨hP, hK⟩ := hB
  have hD := k_A_D hDt
  have hS : va_S (k_A (wx cI q sh sp ld nm tx ds ct co kg ks)) s.heap s.heap [] := va_S.rf
  have hp8 := p8_le hk5
  have ht' : t < 32768 := by omega
  refine lv_aload_n hx hb dL_isWalk_0 rfl (lv_at hl 0 rfl) ?_
  refine lv_iload_n hx hb dL_isWalk_1 rfl (lv_at hl 1 rfl) ?_
  refine lv_iload_n hx hb dL_isWalk_2 rfl (lv_at hl 2 rfl) ?_
  refine lv_iload_n hx hb dL_isWalk_3 rfl (lv_at hl 3 rfl) ?_
  refine k_callVW (wr := []) (As := [.int (nI p0), .int (nI t), .int (nI k)]) (rest := []) ⟨hx, hb, hml, hown, hts⟩ (c_X0_walk l D cI q sh sp ld nm tx ds ct co kg ks p0 hp t k hk1 hk5 htk T K hG Ld hLd hsh NT NK hN hKp (k_D_tt hD)) (cwV 3 hts gL_isWalk_X0_walk rfl rfl rfl (by decide +kernel) ⟨Nat.le_of_ble_eq_true rfl, Nat.le_of_ble_eq_true rfl⟩) k_B_bl (k_B_of hP hK) (va_recv hK hP (ci := 0) (q0 := 0) rfl rfl) rfl hl.1 rfl (Nat.le_of_ble_eq_true rfl) dL_isWalk_4 ⟨Nat.zero_le _, Nat.zero_le _⟩ hP hD hS [] [0, 1, 2, 3, 4, 5, 6, 7, 8] rfl rfl (fun _ => rfl) (fun u_4 H locs hu_4 hP hD hS hsz hkp => ?_)
  have hP : va_P D vwCl (wx cI q sh sp ld nm tx ds ct co u_4.1 u_4.2) H := hP
  have hD : va_D _ (wx cI q sh sp ld nm tx ds ct co u_4.1 u_4.2) := hD
  obtain ⟨st, hst⟩ : ∃ st, sa (toldC sh ct ds K k t) Ld (arrC NK NT k t) 31 0 p0 tk0 = st := ⟨_, rfl⟩
  refine lv_as (y := st) (hst) ?_
  refine lv_istore (lv' := [(4, .int st), (0, .ref (q 0)), (1, .int (nI p0)), (2, .int (nI t)), (3, .int (nI k))]) hx hb dL_isWalk_7 hl (by decide) rfl (fun ls hl => ?_)
  refine lv_aload_n hx hb dL_isWalk_9 rfl (lv_at hl 1 rfl) ?_
  refine lv_iload_n hx hb dL_isWalk_10 rfl (lv_at hl 2 rfl) ?_
  refine lv_iload_n hx hb dL_isWalk_11 rfl (lv_at hl 3 rfl) ?_
  refine lv_iload_n hx hb dL_isWalk_12 rfl (lv_at hl 4 rfl) ?_
  refine lv_bipush (v := nI 30) hx hb dL_isWalk_13 (by decide) ?_
  refine k_callVi (As := [.int (nI p0), .int (nI t), .int (nI k), .int (nI 30)]) (rest := []) ⟨hx, hb, hml, hown, hts⟩ (c_X0_placeBehind l D cI q sh sp ld nm tx ds ct co u_4.1 u_4.2 p0 hp t k hk1 hk5 htk 30 (by omega) T K hG Ld hLd hsh NT NK hN) (cwV 4 hts gL_isWalk_X0_placeBehind rfl rfl rfl (by decide +kernel) ⟨Nat.le_of_ble_eq_true rfl, Nat.le_of_ble_eq_true rfl⟩) k_B_bl (k_B_of hP hK) (va_recv hK hP (ci := 0) (q0 := 0) rfl rfl) rfl hl.1 rfl (Nat.le_of_ble_eq_true rfl) dL_isWalk_15 ⟨Nat.zero_le _, Nat.zero_le _⟩ ?_
  obtain ⟨la, hla⟩ : ∃ la, pl (toldC sh ct ds K k t) Ld (arrC NK NT k t) 30 p0 tk0 = la := ⟨_, rfl⟩
  have hla8 : la < 8 := by rw [← hla]; exact pl_lt8 (fun w hw => (hLd w hw).1) 30 p0 tk0 hp
  refine lv_as (y := nI la) (congrArg nI hla) ?_
  refine lv_istore (lv' := [(5, .int (nI la)), (4, .int st), (0, .ref (q 0)), (1, .int (nI p0)), (2, .int (nI t)), (3, .int (nI k))]) hx hb dL_isWalk_18 hl (by decide) rfl (fun ls hl => ?_)
  refine lv_aload_n hx hb dL_isWalk_20 rfl (lv_at hl 2 rfl) ?_
  refine lv_iload_n hx hb dL_isWalk_21 rfl (lv_at hl 3 rfl) ?_
  refine lv_iload_n hx hb dL_isWalk_22 rfl (lv_at hl 4 rfl) ?_
  refine lv_iload_n hx hb dL_isWalk_23 rfl (lv_at hl 5 rfl) ?_
  refine k_callVi (As := [.int (nI p0), .int (nI t), .int (nI k)]) (rest := []) ⟨hx, hb, hml, hown, hts⟩ (c_X0_walkBySteps l D cI q sh sp ld nm tx ds ct co u_4.1 u_4.2 p0 hp t k hk1 hk5 htk T K hG Ld hLd hsh NT NK hN) (cwV 3 hts gL_isWalk_X0_walkBySteps rfl rfl rfl (by decide +kernel) ⟨Nat.le_of_ble_eq_true rfl, Nat.le_of_ble_eq_true rfl⟩) k_B_bl (k_B_of hP hK) (va_recv hK hP (ci := 0) (q0 := 0) rfl rfl) rfl hl.1 rfl (Nat.le_of_ble_eq_true rfl) dL_isWalk_24 ⟨Nat.zero_le _, Nat.zero_le _⟩ ?_
  refine lv_as (y := st) (hst) ?_
  refine lv_iload hx hb dL_isWalk_27 (lv_at hl 1 rfl) ?_
  refine n_icmp_ne_mm (tgt := 61) hx hb dL_isWalk_29 (by decide) ?_
  rcases sa_pl (told := toldC sh ct ds K k t) (Ld := Ld) (arr := arrC NK NT k t) 31 0 p0 tk0 with hm | ⟨j, hj, hs, hpl⟩
  · have hm := hst.symm.trans hm
    subst hm
    refine lv_iload hx hb dL_isWalk_32 (lv_at hl 1 rfl) ?_
    refine lv_iconst (v := (-1)) hx hb dL_isWalk_34 (by decide) ?_
    refine lv_icmp_lt (tgt := 61) hx hb dL_isWalk_35 (by decide) (fun c_35 => ?_) (fun c_35 => ?_)
    · exact absurd c_35 (by decide)
    · refine lv_iload hx hb dL_isWalk_38 (lv_at hl 1 rfl) ?_
      refine lv_bipush (v := nI 30) hx hb dL_isWalk_40 (by decide) ?_
      refine lv_icmp_gt (tgt := 61) hx hb dL_isWalk_42 (by decide) (fun c_42 => ?_) (fun c_42 => ?_)
      · exact absurd c_42 (by decide)
      · refine lv_aload_n hx hb dL_isWalk_45 rfl (lv_at hl 2 rfl) ?_
        refine lv_iload_n hx hb dL_isWalk_46 rfl (lv_at hl 3 rfl) ?_
        refine lv_iload_n hx hb dL_isWalk_47 rfl (lv_at hl 4 rfl) ?_
        refine lv_iload_n hx hb dL_isWalk_48 rfl (lv_at hl 5 rfl) ?_
        refine lv_iconst (v := nI 0) hx hb dL_isWalk_49 (by decide) ?_
        refine k_callVi (As := [.int (nI p0), .int (nI t), .int (nI k), .int (nI 0)]) (rest := []) ⟨hx, hb, hml, hown, hts⟩ (c_X0_placeBehind l D cI q sh sp ld nm tx ds ct co u_4.1 u_4.2 p0 hp t k hk1 hk5 htk 0 (by omega) T K hG Ld hLd hsh NT NK hN) (cwV 4 hts gL_isWalk_X0_placeBehind rfl rfl rfl (by decide +kernel) ⟨Nat.le_of_ble_eq_true rfl, Nat.le_of_ble_eq_true rfl⟩) k_B_bl (k_B_of hP hK) (va_recv hK hP (ci := 0) (q0 := 0) rfl rfl) rfl hl.1 rfl (Nat.le_of_ble_eq_true rfl) dL_isWalk_50 ⟨Nat.zero_le _, Nat.zero_le _⟩ ?_
        refine lv_as (y := nI p0) (rfl) ?_
        refine lv_iload_n hx hb dL_isWalk_53 rfl (lv_at hl 3 rfl) ?_
        refine n_icmp_ne_mm (tgt := 61) hx hb dL_isWalk_54 (by decide) ?_
        refine lv_iconst (v := nI 1) hx hb dL_isWalk_57 (by decide) ?_
        refine lv_goto (tgt := 62) hx hb dL_isWalk_58 (by decide) ?_
        refine lv_istore (lv' := [(6, .int (nI 1)), (5, .int (nI la)), (4, .int (-1)), (0, .ref (q 0)), (1, .int (nI p0)), (2, .int (nI t)), (3, .int (nI k))]) hx hb dL_isWalk_62 hl (by decide) rfl (fun ls hl => ?_)
        refine lv_iload hx hb dL_isWalk_64 (lv_at hl 0 rfl) ?_
        refine n_if_eq (tgt := 104) hx hb dL_isWalk_66 (by decide) (by decide) (fun c_66 => absurd c_66 (by decide)) (fun _ => ?_)
        refine lv_iload hx hb dL_isWalk_69 (lv_at hl 1 rfl) ?_
        refine n_if_lt (tgt := 104) hx hb dL_isWalk_71 (by decide) (by omega) ?_
        refine lv_iload hx hb dL_isWalk_74 (lv_at hl 1 rfl) ?_
        refine lv_bipush (v := nI 8) hx hb dL_isWalk_76 (by decide) ?_
        refine n_icmp_ge (tgt := 104) hx hb dL_isWalk_78 (by decide) (by omega) (by omega) (fun c_78 => ?_) (fun c_78 => ?_)
        · exact absurd hla8 (by omega)
        · refine lv_iload hx hb dL_isWalk_81 (lv_at hl 2 rfl) ?_
          refine lv_if_lt (tgt := 100) hx hb dL_isWalk_83 (by decide) (fun c_83 => ?_) (fun c_83 => ?_)
          · refine lv_iconst (v := nI 1) hx hb dL_isWalk_100 (by decide) ?_
            refine lv_goto (tgt := 105) hx hb dL_isWalk_101 (by decide) ?_
            exact k_wzret u_4 true hx hb hr hlocks dL_isWalk_105 rfl hu_4 rfl hP hS (Nat.le_of_ble_eq_true rfl) (Nat.le_of_ble_eq_true rfl)
          · exact absurd (by decide) c_83
  · have hs := hst.symm.trans hs
    rw [Nat.zero_add] at hs
    subst hs
    refine lv_iload hx hb dL_isWalk_32 (lv_at hl 1 rfl) ?_
    refine lv_iconst (v := (-1)) hx hb dL_isWalk_34 (by decide) ?_
    refine lv_icmp_lt (tgt := 61) hx hb dL_isWalk_35 (by decide) (fun c_35 => ?_) (fun c_35 => ?_)
    · exact absurd c_35 (nI_nlt_m1 (by omega))
    · refine lv_iload hx hb dL_isWalk_38 (lv_at hl 1 rfl) ?_
      refine lv_bipush (v := nI 30) hx hb dL_isWalk_40 (by decide) ?_
      refine n_icmp_gt (tgt := 61) hx hb dL_isWalk_42 (by decide) (by omega) (by omega) (fun c_42 => ?_) (fun c_42 => ?_)
      · exact absurd hj (by omega)
      · refine lv_aload_n hx hb dL_isWalk_45 rfl (lv_at hl 2 rfl) ?_
        refine lv_iload_n hx hb dL_isWalk_46 rfl (lv_at hl 3 rfl) ?_
        refine lv_iload_n hx hb dL_isWalk_47 rfl (lv_at hl 4 rfl) ?_
        refine lv_iload_n hx hb dL_isWalk_48 rfl (lv_at hl 5 rfl) ?_
        refine lv_iconst (v := nI 0) hx hb dL_isWalk_49 (by decide) ?_
        refine k_callVi (As := [.int (nI p0), .int (nI t), .int (nI k), .int (nI 0)]) (rest := []) ⟨hx, hb, hml, hown, hts⟩ (c_X0_placeBehind l D cI q sh sp ld nm tx ds ct co u_4.1 u_4.2 p0 hp t k hk1 hk5 htk 0 (by omega) T K hG Ld hLd hsh NT NK hN) (cwV 4 hts gL_isWalk_X0_placeBehind rfl rfl rfl (by decide +kernel) ⟨Nat.le_of_ble_eq_true rfl, Nat.le_of_ble_eq_true rfl⟩) k_B_bl (k_B_of hP hK) (va_recv hK hP (ci := 0) (q0 := 0) rfl rfl) rfl hl.1 rfl (Nat.le_of_ble_eq_true rfl) dL_isWalk_50 ⟨Nat.zero_le _, Nat.zero_le _⟩ ?_
        refine lv_as (y := nI p0) (rfl) ?_
        refine lv_iload_n hx hb dL_isWalk_53 rfl (lv_at hl 3 rfl) ?_
        refine n_icmp_ne_mm (tgt := 61) hx hb dL_isWalk_54 (by decide) ?_
        refine lv_iconst (v := nI 1) hx hb dL_isWalk_57 (by decide) ?_
        refine lv_goto (tgt := 62) hx hb dL_isWalk_58 (by decide) ?_
        refine lv_istore (lv' := [(6, .int (nI 1)), (5, .int (nI la)), (4, .int (nI j)), (0, .ref (q 0)), (1, .int (nI p0)), (2, .int (nI t)), (3, .int (nI k))]) hx hb dL_isWalk_62 hl (by decide) rfl (fun ls hl => ?_)
        refine lv_iload hx hb dL_isWalk_64 (lv_at hl 0 rfl) ?_
        refine n_if_eq (tgt := 104) hx hb dL_isWalk_66 (by decide) (by decide) (fun c_66 => absurd c_66 (by decide)) (fun _ => ?_)
        refine lv_iload hx hb dL_isWalk_69 (lv_at hl 1 rfl) ?_
        refine n_if_lt (tgt := 104) hx hb dL_isWalk_71 (by decide) (by omega) ?_
        refine lv_iload hx hb dL_isWalk_74 (lv_at hl 1 rfl) ?_
        refine lv_bipush (v := nI 8) hx hb dL_isWalk_76 (by decide) ?_
        refine n_icmp_ge (tgt := 104) hx hb dL_isWalk_78 (by decide) (by omega) (by omega) (fun c_78 => ?_) (fun c_78 => ?_)
        · exact absurd hla8 (by omega)
        · refine lv_iload hx hb dL_isWalk_81 (lv_at hl 2 rfl) ?_
          refine n_if_lt (tgt := 100) hx hb dL_isWalk_83 (by decide) (by omega) ?_
          refine lv_aload_n hx hb dL_isWalk_86 rfl (lv_at hl 3 rfl) ?_
          refine lv_iload_n hx hb dL_isWalk_87 rfl (lv_at hl 4 rfl) ?_
          refine lv_iload_n hx hb dL_isWalk_88 rfl (lv_at hl 5 rfl) ?_
          refine lv_iload_n hx hb dL_isWalk_89 rfl (lv_at hl 6 rfl) ?_
          refine lv_iload hx hb dL_isWalk_90 (lv_at hl 2 rfl) ?_
          refine k_callVi (As := [.int (nI p0), .int (nI t), .int (nI k), .int (nI j)]) (rest := []) ⟨hx, hb, hml, hown, hts⟩ (c_X0_placeBehind l D cI q sh sp ld nm tx ds ct co u_4.1 u_4.2 p0 hp t k hk1 hk5 htk j (by omega) T K hG Ld hLd hsh NT NK hN) (cwV 4 hts gL_isWalk_X0_placeBehind rfl rfl rfl (by decide +kernel) ⟨Nat.le_of_ble_eq_true rfl, Nat.le_of_ble_eq_true rfl⟩) k_B_bl (k_B_of hP hK) (va_recv hK hP (ci := 0) (q0 := 0) rfl rfl) rfl hl.1 rfl (Nat.le_of_ble_eq_true rfl) dL_isWalk_92 ⟨Nat.zero_le _, Nat.zero_le _⟩ ?_
          refine lv_as (y := nI la) (congrArg nI ((hpl 30 (by omega)).symm.trans hla)) ?_
          refine lv_iload hx hb dL_isWalk_95 (lv_at hl 1 rfl) ?_
          refine n_icmp_ne_mm (tgt := 104) hx hb dL_isWalk_97 (by decide) ?_
          refine lv_iconst (v := nI 1) hx hb dL_isWalk_100 (by decide) ?_
          refine lv_goto (tgt := 105) hx hb dL_isWalk_101 (by decide) ?_
          exact k_wzret u_4 true hx hb hr hlocks dL_isWalk_105 rfl hu_4 rfl hP hS (Nat.le_of_ble_eq_true rfl) (Nat.le_of_ble_eq_true rfl)
set_option maxHeartbeats 4000000 in
set_option maxRecDepth 100000 in
theorem c_L_areGlyphs (l : Launch) (D : va_G) (cI : ClassId) (q : Nat → Nat) (sh sp ld nm tx ds ct : Nat → Int32) (co : Int64) (kg : Int32) (ks : Nat → Int32) (i j : Nat) (hi : i < 8) (hj : j < 8) (hsh : ∀ g, g < 8 → S25 (sh g)) : k_M l yL_areGlyphs wsL_areGlyphs ({ frames := 5, cells := 0, slots := 0, locals := 116 } : Room) [.ref (q 0), .int (nI i), .int (nI j)] (k_B D (wx cI q sh sp ld nm tx ds ct co kg ks) [(cI, .int)]) (some (.int (bI true))) := by
  refine k_head (cc := cL_areGlyphs) (maxL := 4) (ret := some .boolean) [(0, .ref (q 0)), (1, .int (nI i)), (2, .int (nI j))] (by decide) rfl (Nat.le_of_ble_eq_true rfl) rfl ?_
  intro p e s m below meth c ls hx hb hr hml hown hts hlocks hname hB hl
  have hown : s.vm.findClass RL = some m.cls := hown
  obtain ⟨hP, hK⟩ := hB
  obtain ⟨d, hd25, hd⟩ := df_rg (hsh i hi) (hsh j hj)
  obtain ⟨wk, hw1, hw5, hwk⟩ := wd_rg (hcC (sh i))
  refine lv_aload_n hx hb dL_areGlyphs_0 rfl (lv_at hl 0 rfl) ?_
  refine lv_iload_n hx hb dL_areGlyphs_1 rfl (lv_at hl 1 rfl) ?_
  refine lv_iload_n hx hb dL_areGlyphs_2 rfl (lv_at hl 2 rfl) ?_
  refine k_callVi (As := [.int (nI i), .int (nI j)]) (rest := []) ⟨hx, hb, hml, hown, hts⟩ (c_X0_difference l D cI q sh sp ld nm tx ds ct co kg ks i j (by omega) (by omega) hsh) (cwV 2 hts gL_areGlyphs_X0_difference rfl rfl rfl (by decide +kernel) ⟨Nat.le_of_ble_eq_true rfl, Nat.le_of_ble_eq_true rfl⟩) k_B_bl (k_B_of hP hK) (va_recv hK hP (ci := 0) (q0 := 0) rfl rfl) rfl hl.1 rfl (Nat.le_of_ble_eq_true rfl) dL_areGlyphs_3 ⟨Nat.zero_le _, Nat.zero_le _⟩ ?_
  refine lv_as (y := nI d) (hd) ?_
  refine lv_istore_n (lv' := [(3, .int (nI d)), (0, .ref (q 0)), (1, .int (nI i)), (2, .int (nI j))]) hx hb dL_areGlyphs_6 rfl hl (by decide) rfl (fun ls hl => ?_)
  refine lv_iload_n hx hb dL_areGlyphs_7 rfl (lv_at hl 0 rfl) ?_
  refine n_if_lt (tgt := 58) hx hb dL_areGlyphs_8 (by decide) (by omega) ?_
  refine lv_iload_n hx hb dL_areGlyphs_11 rfl (lv_at hl 0 rfl) ?_
  refine lv_bipush (v := nI 25) hx hb dL_areGlyphs_12 (by decide) ?_
  refine n_icmp_gt (tgt := 58) hx hb dL_areGlyphs_14 (by decide) (by omega) (by omega) (fun c_14 => ?_) (fun c_14 => ?_)
  · exact absurd hd25 (by omega)
  · refine lv_aload_n hx hb dL_areGlyphs_17 rfl (lv_at hl 1 rfl) ?_
    refine lv_iload_n hx hb dL_areGlyphs_18 rfl (lv_at hl 3 rfl) ?_
    refine lv_iload_n hx hb dL_areGlyphs_19 rfl (lv_at hl 2 rfl) ?_
    refine k_callVi (As := [.int (nI j), .int (nI i)]) (rest := []) ⟨hx, hb, hml, hown, hts⟩ (c_X0_difference l D cI q sh sp ld nm tx ds ct co kg ks j i (by omega) (by omega) hsh) (cwV 2 hts gL_areGlyphs_X0_difference rfl rfl rfl (by decide +kernel) ⟨Nat.le_of_ble_eq_true rfl, Nat.le_of_ble_eq_true rfl⟩) k_B_bl (k_B_of hP hK) (va_recv hK hP (ci := 0) (q0 := 0) rfl rfl) rfl hl.1 rfl (Nat.le_of_ble_eq_true rfl) dL_areGlyphs_20 ⟨Nat.zero_le _, Nat.zero_le _⟩ ?_
    refine lv_as (y := nI d) ((df_comm _ _).trans hd) ?_
    refine lv_iload_n hx hb dL_areGlyphs_23 rfl (lv_at hl 0 rfl) ?_
    refine n_icmp_ne_mm (tgt := 58) hx hb dL_areGlyphs_24 (by decide) ?_
    refine lv_aload_n hx hb dL_areGlyphs_27 rfl (lv_at hl 1 rfl) ?_
    refine lv_iload_n hx hb dL_areGlyphs_28 rfl (lv_at hl 2 rfl) ?_
    refine lv_iload_n hx hb dL_areGlyphs_29 rfl (lv_at hl 2 rfl) ?_
    refine k_callVi (As := [.int (nI i), .int (nI i)]) (rest := []) ⟨hx, hb, hml, hown, hts⟩ (c_X0_difference l D cI q sh sp ld nm tx ds ct co kg ks i i (by omega) (by omega) hsh) (cwV 2 hts gL_areGlyphs_X0_difference rfl rfl rfl (by decide +kernel) ⟨Nat.le_of_ble_eq_true rfl, Nat.le_of_ble_eq_true rfl⟩) k_B_bl (k_B_of hP hK) (va_recv hK hP (ci := 0) (q0 := 0) rfl rfl) rfl hl.1 rfl (Nat.le_of_ble_eq_true rfl) dL_areGlyphs_30 ⟨Nat.zero_le _, Nat.zero_le _⟩ ?_
    refine lv_as (y := nI 0) (df_self _) ?_
    refine n_if_ne (tgt := 58) hx hb dL_areGlyphs_33 (by decide) (by decide) (fun c_33 => absurd c_33 (by decide)) (fun _ => ?_)
    refine lv_aload_n hx hb dL_areGlyphs_36 rfl (lv_at hl 1 rfl) ?_
    refine lv_iload_n hx hb dL_areGlyphs_37 rfl (lv_at hl 2 rfl) ?_
    refine k_callVi (As := [.int (nI i)]) (rest := []) ⟨hx, hb, hml, hown, hts⟩ (c_X0_width l D cI q sh sp ld nm tx ds ct co kg ks i (by omega)) (cwV 1 hts gL_areGlyphs_X0_width rfl rfl rfl (by decide +kernel) ⟨Nat.le_of_ble_eq_true rfl, Nat.le_of_ble_eq_true rfl⟩) k_B_bl (k_B_of hP hK) (va_recv hK hP (ci := 0) (q0 := 0) rfl rfl) rfl hl.1 rfl (Nat.le_of_ble_eq_true rfl) dL_areGlyphs_38 ⟨Nat.zero_le _, Nat.zero_le _⟩ ?_
    refine lv_as (y := nI wk) (hwk) ?_
    refine lv_iconst (v := nI 1) hx hb dL_areGlyphs_41 (by decide) ?_
    refine n_icmp_lt (tgt := 58) hx hb dL_areGlyphs_42 (by decide) (by omega) (by omega) (fun c_42 => ?_) (fun c_42 => ?_)
    · exact absurd hw1 (by omega)
    · refine lv_aload_n hx hb dL_areGlyphs_45 rfl (lv_at hl 1 rfl) ?_
      refine lv_iload_n hx hb dL_areGlyphs_46 rfl (lv_at hl 2 rfl) ?_
      refine k_callVi (As := [.int (nI i)]) (rest := []) ⟨hx, hb, hml, hown, hts⟩ (c_X0_width l D cI q sh sp ld nm tx ds ct co kg ks i (by omega)) (cwV 1 hts gL_areGlyphs_X0_width rfl rfl rfl (by decide +kernel) ⟨Nat.le_of_ble_eq_true rfl, Nat.le_of_ble_eq_true rfl⟩) k_B_bl (k_B_of hP hK) (va_recv hK hP (ci := 0) (q0 := 0) rfl rfl) rfl hl.1 rfl (Nat.le_of_ble_eq_true rfl) dL_areGlyphs_47 ⟨Nat.zero_le _, Nat.zero_le _⟩ ?_
      refine lv_as (y := nI wk) (hwk) ?_
      refine lv_iconst (v := nI 5) hx hb dL_areGlyphs_50 (by decide) ?_
      refine n_icmp_gt (tgt := 58) hx hb dL_areGlyphs_51 (by decide) (by omega) (by omega) (fun c_51 => ?_) (fun c_51 => ?_)
      · exact absurd hw5 (by omega)
      · refine lv_iconst (v := nI 1) hx hb dL_areGlyphs_54 (by decide) ?_
        refine lv_goto (tgt := 59) hx hb dL_areGlyphs_55 (by decide) ?_
        exact k_zret hx hb hr hlocks dL_areGlyphs_59 (rfl)
end
section
/-! THE CLAIM OUT OF ONE WALK OF THE LAW'S BODY. Your part is whole_start (and what it stands on); all else here is the same for every law, but numbers. -/
def R_law : String := "SignRailLaw"
def lw_P (b : Addr) (xs : List Int32) (args : Array Value) (s : State) : Prop := args = #[.ref b] ∧ s.IntsAt b xs ∧ xs.length ≤ 260 ∧ (Jvm.Cond.and given_1 narrow_1).before args s = true
def lw_Q (_ : Array Value) (s : State) (o : Outcome) (t : State) : Prop := o = .returned (some (.int 1)) ∧ Framed s o t [] 96 1076
def lw_Z (below : List Frame) (a : Array Value) (s : State) : State → Prop := fun t => ∃ o, t.status = .running ∧ Ended t below o ∧ lw_Q a s o t
/-- the law's own end, with 1 on the stack, nothing written that was there before, its room as the claim has it -/
theorem lw_ret {p : Program} {l : Launch} {e : Env} {s : State} {m : MethodId} {below : List Frame} {meth : Method} {c : Code} {b : Nat} (hx : p.tables.exec = Jvm.exec) (hb : c.code = code) (hr : meth.sig.returnType = ret) (hlocks : meth.locks = false) {pc : Nat} {H : Heap} {ls : Array Slot} (hdg : decode code pc = .ok (.ireturn, 1)) : W p l e room_1 s m #[Value.ref b] below meth c H [] 96 1076 (lw_Z below #[Value.ref b] s) (F0 m pc ls [.int 1]) := by
  intro T hT X
  obtain ⟨fs, hret, hrun, hended, hW, hframe⟩ := X.leave (v := some (.int 1)) (hlocks := hlocks) (fun h => by rw [hr] at h; cases h)
  have hmeth' : T.vm.method? m = some meth := X.method'
  refine ⟨T.setFrames fs, ?_, .returned (some (.int 1)), hrun, hended, rfl, ⟨_, rfl⟩, hW, hframe⟩
  jvm_step X.here [X.here.top, hx, hb, hdg, hmeth', hr, ret, narrow_b1]
  (try refine ⟨rfl, ?_⟩); (try refine ⟨rfl, ?_⟩)
  first | (intro acts; rw [hret _ acts rfl rfl rfl]) | rw [hret _ _ rfl rfl rfl]
  exact Steps.refl _
/-- what holds at the law's entry: the machine, the code, the tables' words (any of lw_tbl by 'hts w (by decide +kernel)'), the script of L ints xs at the cell b, what the Statement gives of the start (any of its parts by flat_of_before) -/
def lw_At (p : Program) (s : State) (m : MethodId) (meth : Method) (c : Code) (b L : Nat) (xs : Nat → Int32) : Prop :=
  p.tables.exec = Jvm.exec ∧ c.code = code ∧ meth.sig.returnType = ret ∧ c.maxLocals = 24 ∧ s.vm.findClass R_law = some m.cls ∧ (∀ w ∈ lw_tbl, w.before #[Value.ref b] s = true) ∧ va_X b L xs s s.heap ∧ b < s.heap.size ∧ meth.locks = false ∧ (Jvm.Cond.and given_1 narrow_1).before #[Value.ref b] s = true
abbrev wl (cI : ClassId) (q : Nat → Nat) (a1 a2 : Nat) (sh sp ld nm tx ds ct : Nat → Int32) (co : Int64) (kg : Int32) (ks sg lq : Nat → Int32) : va_W := wx cI q sh sp ld nm tx ds ct co kg ks ++ [(a1, .inl (cI, 32, .inl sg)), (a2, .inl (cI, 32, .inl lq))]
/-- the class's state against the law's own rows -/
def lqR (sh ld nm tx ds ct : Nat → Int32) (kg : Int32) (ks sg lq : Nat → Int32) (T K Ld NT NK : Nat → Nat) : Prop :=
  (∀ g, g < 8 → S25 (sh g)) ∧ (∀ w, w < 32 → Ld w ≤ 8 ∧ ld w = ix (Ld w) ∧ lq w = ix (Ld w)) ∧ (∀ p, p < 8 → NT p < 32768 ∧ NK p ≤ 5 ∧ nm p = nI (32768 * NK p + NT p)) ∧
  (∀ w, w < 32 → K w ≤ 5 ∧ T w < 8 ^ K w ∧ tx w = nI (32768 * K w + T w) ∧ (∀ j, j < K w → S25 (ct (w * 5 + j))) ∧ sg w = nI (if K w = 0 then 0 else 1)) ∧ kpOK (fun gk gt p => sa (toldC sh ct ds K gk gt) Ld (arrC NK NT gk gt) 31 0 p tk0) kg ks
section RELS
variable {sh sp ld nm tx ds ct : Nat → Int32} {co : Int64} {kg : Int32} {ks sg lq : Nat → Int32} {T K Ld NT NK : Nat → Nat}
theorem lqR.hG (h : lqR sh ld nm tx ds ct kg ks sg lq T K Ld NT NK) : ∀ w, w < 32 → T w < 32768 ∧ K w ≤ 5 ∧ tx w = nI (32768 * K w + T w) ∧ ∀ j, j < K w → S25 (ct (w * 5 + j)) := fun w hw => by
  obtain ⟨h1, h2, h3, h5, -⟩ := h.2.2.2.1 w hw
  have h4 := p8_le h1
  exact ⟨by omega, h1, h3, h5⟩
theorem lqR.hLd (h : lqR sh ld nm tx ds ct kg ks sg lq T K Ld NT NK) : ∀ w, w < 32 → Ld w ≤ 8 ∧ ld w = ix (Ld w) := fun w hw => ⟨(h.2.1 w hw).1, (h.2.1 w hw).2.1⟩
theorem lqR.hlq (h : lqR sh ld nm tx ds ct kg ks sg lq T K Ld NT NK) : ∀ w, w < 32 → lq w = ix (Ld w) := fun w hw => (h.2.1 w hw).2.2
theorem lqR.hS0 (h : lqR sh ld nm tx ds ct kg ks sg lq T K Ld NT NK) : ∀ w, w < 32 → T w < 8 ^ K w := fun w hw => (h.2.2.2.1 w hw).2.1
theorem lqR.hK5 (h : lqR sh ld nm tx ds ct kg ks sg lq T K Ld NT NK) : ∀ w, w < 32 → K w ≤ 5 := fun w hw => (h.2.2.2.1 w hw).1
theorem lqR.hsg (h : lqR sh ld nm tx ds ct kg ks sg lq T K Ld NT NK) {w : Nat} (hw : w < 32) : sg w = nI (if K w = 0 then 0 else 1) := (h.2.2.2.1 w hw).2.2.2.2
theorem lqR.stroke (h : lqR sh ld nm tx ds ct kg ks sg lq T K Ld NT NK) {g : Nat} {x : Int32} (hx : S25 x) : lqR (upd sh g x) ld nm tx ds ct (nI 0) ks sg lq T K Ld NT NK := by
  refine ⟨fun v hv => ?_, h.2.1, h.2.2.1, h.2.2.2.1, kp_0 _ _⟩
  by_cases e : v = g
  · subst e; rw [pk_us]; exact hx
  · rw [pk_un e]; exact h.1 v hv
theorem lqR.lead (h : lqR sh ld nm tx ds ct kg ks sg lq T K Ld NT NK) {g a : Nat} (ha : a ≤ 8) : lqR sh (upd ld g (ix a)) nm tx ds ct (nI 0) ks sg (upd lq g (ix a)) T K (fun w => if w = g then a else Ld w) NT NK := by
  refine ⟨h.1, fun v hv => ?_, h.2.2.1, h.2.2.2.1, kp_0 _ _⟩
  show (if v = g then a else Ld v) ≤ 8 ∧ upd ld g (ix a) v = ix (if v = g then a else Ld v) ∧ upd lq g (ix a) v = ix (if v = g then a else Ld v)
  by_cases e : v = g
  · subst e; rw [pk_us, pk_us, if_pos rfl]; exact ⟨ha, rfl, rfl⟩
  · rw [pk_un e, pk_un e, if_neg e]; exact h.2.1 v hv
theorem lqR.name (h : lqR sh ld nm tx ds ct kg ks sg lq T K Ld NT NK) {g t k : Nat} (hk : k ≤ 5) (ht : t < 8 ^ k) : lqR sh ld (upd nm g (nI (32768 * k + t))) tx ds ct (nI 0) ks sg lq T K Ld (fun w => if w = g then t else NT w) (fun w => if w = g then k else NK w) := by
  have h8 := p8_le hk
  refine ⟨h.1, h.2.1, fun v hv => ?_, h.2.2.2.1, kp_0 _ _⟩
  show (if v = g then t else NT v) < 32768 ∧ (if v = g then k else NK v) ≤ 5 ∧ upd nm g (nI (32768 * k + t)) v = nI (32768 * (if v = g then k else NK v) + (if v = g then t else NT v))
  by_cases e : v = g
  · subst e; simp only [pk_us, if_true]; exact ⟨by omega, hk, trivial⟩
  · simp only [pk_un e, if_neg e]; exact h.2.2.1 v hv
theorem lqR.cut (h : lqR sh ld nm tx ds ct kg ks sg lq T K Ld NT NK) {g t k : Nat} {d : Int32} (hg : g < 32) (hk1 : 1 ≤ k) (hk : k ≤ 5) (ht : t < 8 ^ k) : lqR sh ld nm (upd tx g (nI (32768 * k + t))) (upd ds g d) (engF sh ct g t k) (nI 0) ks (upd sg g (nI 1)) lq (fun w => if w = g then t else T w) (fun w => if w = g then k else K w) Ld NT NK := by
  have h8 := p8_le hk
  refine ⟨h.1, h.2.1, h.2.2.1, fun v hv => ?_, kp_0 _ _⟩
  show (if v = g then k else K v) ≤ 5 ∧ (if v = g then t else T v) < 8 ^ (if v = g then k else K v) ∧ upd tx g (nI (32768 * k + t)) v = nI (32768 * (if v = g then k else K v) + (if v = g then t else T v)) ∧ (∀ j, j < (if v = g then k else K v) → S25 (engF sh ct g t k (v * 5 + j))) ∧ upd sg g (nI 1) v = nI (if (if v = g then k else K v) = 0 then 0 else 1)
  by_cases e : v = g
  · subst e
    simp only [pk_us, if_true]
    refine ⟨hk, ht, trivial, fun j hj => ?_, ?_⟩
    · rw [eng_in hj]; exact h.1 _ (dg_lt _ _)
    · rw [if_neg (by omega)]
  · simp only [pk_un e, if_neg e]
    obtain ⟨h1, h2, h3, h4, h5⟩ := h.2.2.2.1 v hv
    refine ⟨h1, h2, h3, fun j hj => ?_, h5⟩
    rw [eng_out (fun i hi => by omega)]
    exact h4 j hj
theorem lqR.remove (h : lqR sh ld nm tx ds ct kg ks sg lq T K Ld NT NK) {g : Nat} : lqR sh ld nm (upd tx g (nI 0)) ds ct (nI 0) ks (upd sg g (nI 0)) lq (fun w => if w = g then 0 else T w) (fun w => if w = g then 0 else K w) Ld NT NK := by
  refine ⟨h.1, h.2.1, h.2.2.1, fun v hv => ?_, kp_0 _ _⟩
  show (if v = g then 0 else K v) ≤ 5 ∧ (if v = g then 0 else T v) < 8 ^ (if v = g then 0 else K v) ∧ upd tx g (nI 0) v = nI (32768 * (if v = g then 0 else K v) + (if v = g then 0 else T v)) ∧ (∀ j, j < (if v = g then 0 else K v) → S25 (ct (v * 5 + j))) ∧ upd sg g (nI 0) v = nI (if (if v = g then 0 else K v) = 0 then 0 else 1)
  by_cases e : v = g
  · subst e; simp only [pk_us, if_true]; exact ⟨by decide, by decide, trivial, fun j hj => absurd hj (Nat.not_lt_zero _), trivial⟩
  · simp only [pk_un e, if_neg e]; exact h.2.2.2.1 v hv
theorem lqR.walk (h : lqR sh ld nm tx ds ct kg ks sg lq T K Ld NT NK) {kg2 : Int32} {ks2 : Nat → Int32} (hk : kpOK (fun gk gt p => sa (toldC sh ct ds K gk gt) Ld (arrC NK NT gk gt) 31 0 p tk0) kg2 ks2) : lqR sh ld nm tx ds ct kg2 ks2 sg lq T K Ld NT NK := ⟨h.1, h.2.1, h.2.2.1, h.2.2.2.1, hk⟩
theorem lqR.had (h : lqR sh ld nm tx ds ct kg ks sg lq T K Ld NT NK) {w : Nat} (hw : w < 32) : bI (!decide (tx w = 0)) = nI (if K w = 0 then 0 else 1) := by
  obtain ⟨h1, h2, h3, -⟩ := h.2.2.2.1 w hw
  have h4 := p8_le h1
  by_cases hz : K w = 0
  · have h5 : tx w = 0 := by
      rw [hz] at h2 h3
      rw [h3, show T w = 0 by simpa using h2]
      rfl
    rw [if_pos hz, decide_eq_true h5]
    rfl
  · have h5 : tx w ≠ 0 := fun q => by
      rw [h3, ← nI_0] at q
      have := nI_inj (by omega) (by decide) q
      omega
    rw [if_neg hz, decide_eq_false h5]
    rfl
theorem lqR.rd (h : lqR sh ld nm tx ds ct kg ks sg lq T K Ld NT NK) {w : Nat} (hw : w < 32) (hz : K w ≠ 0) : ∃ r, r < 32768 ∧ (if K w = 0 then (-1) else nI (rtN (rdS sh ct ds w) (K w))) = nI r := by
  have h1 := rtN_lt (r := rdS sh ct ds w) (fun _ => rdG_lt _ _) (K w)
  have h2 := p8_le (h.hK5 w hw)
  exact ⟨_, by omega, if_neg hz⟩
theorem old_cut {g t k a bb : Nat} : bI (anyB (oldC sh (engF sh ct g t k) g (if g = g then t else a)) (if g = g then k else bb)) = nI 0 := by
  rw [if_pos rfl, if_pos rfl, old_eng]
  rfl
theorem old_rm {f : Nat → Bool} {g bb : Nat} : bI (anyB f (if g = g then 0 else bb)) = nI 0 := by
  rw [if_pos rfl]
  rfl
theorem walk_here {told : Nat → Bool} {g t k : Nat} : sa told Ld (arrC (fun w => if w = g then k else NK w) (fun w => if w = g then t else NT w) k t) 31 0 g tk0 = nI 0 := sa_a (f := 30) (decide_eq_true ⟨if_pos rfl, if_pos rfl⟩)
theorem sp_rg : ∀ y, y < 5 → ¬ (nI y - nI 1 < -1) ∧ nI y - nI 1 ≤ nI 3 := by decide
theorem ld_rg : ∀ y, y < 9 → nI y - nI 1 = ix (if y = 0 then 8 else y - 1) := by decide
/-- where a stroke's end lies -/
def jX (x far : Nat) (v : Int32) : Prop := ∃ c1, c1 < 5 ∧ nI x + v = nI c1 ∧ ((v = 0 ∧ c1 = x) ∨ (v ≠ 0 ∧ dist x c1 = far))
def jY (y far : Nat) (dx v : Int32) : Prop := ∃ d1, d1 < 5 ∧ nI y + v = nI d1 ∧ (d1 = y ∨ (dx ≠ 0 ∧ dist y d1 = far))
theorem jX_1 : ∀ x, x < 5 → ∀ far, far < 5 → x + far < 5 → (nI x + nI far = nI (x + far) ∧ ((nI far = 0 ∧ x + far = x) ∨ (nI far ≠ 0 ∧ dist x (x + far) = far))) := by decide
theorem jX_2 : ∀ x, x < 5 → ∀ far, far < 5 → nI x - nI far < 0 ∨ (x - far < 5 ∧ nI x + -nI far = nI (x - far) ∧ ((-nI far = 0 ∧ x - far = x) ∨ (-nI far ≠ 0 ∧ dist x (x - far) = far))) := by decide
theorem jX_a {x far : Nat} (hx : x < 5) (hf : far < 5) (h : x + far < 5) : jX x far (nI far) := ⟨x + far, h, (jX_1 x hx far hf h).1, (jX_1 x hx far hf h).2⟩
theorem jX_b {x far : Nat} (hx : x < 5) (hf : far < 5) (h : ¬ (nI x - nI far < 0)) : jX x far (-nI far) := have h2 := (jX_2 x hx far hf).resolve_left h; ⟨x - far, h2.1, h2.2.1, h2.2.2⟩
theorem jX_c {x far : Nat} (hx : x < 5) : jX x far (nI 0) := ⟨x, hx, by rw [nI_0, Int32.add_zero], Or.inl ⟨rfl, rfl⟩⟩
theorem jY_a {y far : Nat} {dx : Int32} (hf : far < 5) (h : y + far < 5) (hd : dx ≠ 0) : jY y far dx (nI far) := ⟨y + far, h, nI_add y far, Or.inr ⟨hd, by unfold dist; split <;> omega⟩⟩
theorem jY_c {y far : Nat} {dx : Int32} (hy : y < 5) : jY y far dx (nI 0) := ⟨y, hy, by rw [nI_0, Int32.add_zero], Or.inl rfl⟩
theorem ln_of {x y c1 d1 far : Nat} {dx : Int32} (h1 : (dx = 0 ∧ c1 = x) ∨ (dx ≠ 0 ∧ dist x c1 = far)) (h2 : d1 = y ∨ (dx ≠ 0 ∧ dist y d1 = far)) : lnK x y c1 d1 = true := by
  refine decide_eq_true ?_
  rcases h2 with rfl | ⟨h3, h4⟩
  · refine Or.inr (Or.inl ?_)
    unfold dist
    split <;> omega
  · rcases h1 with ⟨h5, -⟩ | ⟨-, h6⟩
    · exact absurd h5 h3
    · exact Or.inr (Or.inr (h6.trans h4.symm))
def lqI (D : va_G) (cI : ClassId) (q : Nat → Nat) (a1 a2 : Nat) (co : Int64) (s : State) (H : Heap) (locs : List Loc) : Prop :=
  ∃ (sh sp ld nm tx ds ct : Nat → Int32) (kg : Int32) (ks sg lq : Nat → Int32) (T K Ld NT NK : Nat → Nat), lqR sh ld nm tx ds ct kg ks sg lq T K Ld NT NK ∧ va_P D vwCl (wl cI q a1 a2 sh sp ld nm tx ds ct co kg ks sg lq) H ∧ va_D (fun a : Nat => s.heap.size ≤ a) (wl cI q a1 a2 sh sp ld nm tx ds ct co kg ks sg lq) ∧ va_S (fun a : Nat => s.heap.size ≤ a) s.heap H locs
theorem lqI_mk {D : va_G} {cI : ClassId} {q : Nat → Nat} {a1 a2 : Nat} {s : State} {H : Heap} {locs : List Loc} (hR : lqR sh ld nm tx ds ct kg ks sg lq T K Ld NT NK) (hP : va_P D vwCl (wl cI q a1 a2 sh sp ld nm tx ds ct co kg ks sg lq) H) (hD : va_D (fun a : Nat => s.heap.size ≤ a) (wl cI q a1 a2 sh sp ld nm tx ds ct co kg ks sg lq)) (hS : va_S (fun a : Nat => s.heap.size ≤ a) s.heap H locs) : lqI D cI q a1 a2 co s H locs := ⟨sh, sp, ld, nm, tx, ds, ct, kg, ks, sg, lq, T, K, Ld, NT, NK, hR, hP, hD, hS⟩
end RELS
def lqC (p : Program) (s : State) (m : MethodId) (meth : Method) (c : Code) (b L : Nat) (xs : Nat → Int32) (D : va_G) (cI : ClassId) : Prop := lw_At p s m meth c b L xs ∧ va_K D vwCl [(cI, .int)] s ∧ L ≤ 260
abbrev lqL (b : Nat) (q : Nat → Nat) (a1 a2 : Nat) (co : Int64) (turn : Nat) : List (Nat × Value) := [(0, .ref b), (1, .ref (q 0)), (2, .ref a1), (3, .ref a2), (4, .long co), (6, .int (nI turn))]
abbrev lqM (b : Nat) (q : Nat → Nat) (a1 a2 : Nat) (co : Int64) (turn : Nat) (vv ww : Int32) : List (Nat × Value) := lqL b q a1 a2 co turn ++ [(7, .int vv), (8, .int ww), (15, .int (nI 1))]
abbrev lqN (b : Nat) (q : Nat → Nat) (a1 a2 : Nat) (co : Int64) (turn : Nat) (vv ww : Int32) (p0 x0 k t : Nat) : List (Nat × Value) := lqM b q a1 a2 co turn vv ww ++ [(10, .int (nI p0)), (11, .int (nI x0)), (12, .int (nI (p0 * 4 + x0))), (13, .int (nI k)), (14, .int (nI t))]
end
section
set_option maxHeartbeats 4000000 in
set_option maxRecDepth 100000 in
theorem lb_stroke {p : Program} {l : Launch} {e : Env} {s : State} {m : MethodId} {below : List Frame} {meth : Method} {c : Code} {b L : Nat} {xs : Nat → Int32} {D : va_G} {cI : ClassId} {q : Nat → Nat} {a1 a2 : Nat} {co : Int64} {H : Heap} {locs : List Loc} {ls : Array Slot} {turn : Nat} {vv ww : Int32} (hC : lqC p s m meth c b L xs D cI)  (hI : lqI D cI q a1 a2 co s H locs) (hl : lv_has ls 24 (lqM b q a1 a2 co turn vv ww)) (hk : ∀ (H : Heap) (locs : List Loc) (ls : Array Slot) (co : Int64), lqI D cI q a1 a2 co s H locs → lv_has ls 24 (lqM b q a1 a2 co turn vv ww) → W p l e room_1 s m #[Value.ref b] below meth c H locs 96 1076 (lw_Z below #[Value.ref b] s) (F0 m 700 ls [])) : W p l e room_1 s m #[Value.ref b] below meth c H locs 96 1076 (lw_Z below #[Value.ref b] s) (F0 m 148 ls []) := by
  obtain ⟨C0, hK, hL⟩ := id hC
  obtain ⟨hx, hb, hr, hml, hown, hts0, hX, hbl, hlocks, hgv⟩ := id C0
  have hts : ∀ w ∈ wsL_law, w.before #[Value.ref b] s = true := fun w h => hts0 w (wsL_law_in w h)
  have hown : s.vm.findClass RL = some m.cls := hown
  have hbA : ¬ (fun a : Nat => s.heap.size ≤ a) b := Nat.not_le.mpr hbl
  obtain ⟨sh, sp, ld, nm, tx, ds, ct, kg, ks, sg, lq, T, K, Ld, NT, NK, hR, hP, hD, hS⟩ := hI
  have hl : lv_has ls 24 [(0, .ref b), (1, .ref (q 0)), (2, .ref a1), (3, .ref a2), (4, .long co), (6, .int (nI turn)), (7, .int vv), (8, .int ww), (15, .int (nI 1))] := hl
  have hsh := hR.1
  refine lv_iload hx hb dL_law_148 (lv_at hl 7 rfl) ?_
  refine lv_bipush (v := nI 8) hx hb dL_law_150 (by decide) ?_
  refine k_callSi (As := [.int ww, .int (nI 8)]) (rest := []) ⟨hx, hb, hml, hown, hts⟩ (c_L_low l ww 8 (by decide) (by decide)) (va_cwS 2 hts gL_law_L_low rfl rfl rfl (by decide +kernel) ⟨Nat.le_of_ble_eq_true rfl, Nat.le_of_ble_eq_true rfl⟩) k_bl_tt (fun _ _ _ => trivial) rfl hl.1 rfl (Nat.le_of_ble_eq_true rfl) dL_law_152 ⟨Nat.le_of_ble_eq_true rfl, Nat.le_of_ble_eq_true rfl⟩ ?_
  obtain ⟨gl, e_gl⟩ : ∃ z, lowN ww 8 = z := ⟨_, rfl⟩
  have h_gl : gl < 8 := by rw [← e_gl]; exact lowN_lt _ (by decide)
  refine lv_as (y := nI gl) (congrArg nI e_gl) ?_
  refine lv_istore (lv' := [(16, .int (nI gl)), (0, .ref b), (1, .ref (q 0)), (2, .ref a1), (3, .ref a2), (4, .long co), (6, .int (nI turn)), (7, .int vv), (8, .int ww), (15, .int (nI 1))]) hx hb dL_law_155 hl (by decide) rfl (fun ls hl => ?_)
  refine lv_iload hx hb dL_law_157 (lv_at hl 8 rfl) ?_
  refine lv_iconst (v := nI 3) hx hb dL_law_159 (by decide) ?_
  refine lv_ishr hx hb dL_law_160 ?_
  refine lv_iconst (v := nI 5) hx hb dL_law_161 (by decide) ?_
  refine k_callSi (As := [.int (ww >>> ((nI 3) &&& 31)), .int (nI 5)]) (rest := []) ⟨hx, hb, hml, hown, hts⟩ (c_L_low l (ww >>> ((nI 3) &&& 31)) 5 (by decide) (by decide)) (va_cwS 2 hts gL_law_L_low rfl rfl rfl (by decide +kernel) ⟨Nat.le_of_ble_eq_true rfl, Nat.le_of_ble_eq_true rfl⟩) k_bl_tt (fun _ _ _ => trivial) rfl hl.1 rfl (Nat.le_of_ble_eq_true rfl) dL_law_162 ⟨Nat.le_of_ble_eq_true rfl, Nat.le_of_ble_eq_true rfl⟩ ?_
  obtain ⟨x1, e_x1⟩ : ∃ z, lowN (ww >>> ((nI 3) &&& 31)) 5 = z := ⟨_, rfl⟩
  have h_x1 : x1 < 5 := by rw [← e_x1]; exact lowN_lt _ (by decide)
  refine lv_as (y := nI x1) (congrArg nI e_x1) ?_
  refine lv_istore (lv' := [(17, .int (nI x1)), (16, .int (nI gl)), (0, .ref b), (1, .ref (q 0)), (2, .ref a1), (3, .ref a2), (4, .long co), (6, .int (nI turn)), (7, .int vv), (8, .int ww), (15, .int (nI 1))]) hx hb dL_law_165 hl (by decide) rfl (fun ls hl => ?_)
  refine lv_iload hx hb dL_law_167 (lv_at hl 9 rfl) ?_
  refine lv_bipush (v := nI 6) hx hb dL_law_169 (by decide) ?_
  refine lv_ishr hx hb dL_law_171 ?_
  refine lv_iconst (v := nI 5) hx hb dL_law_172 (by decide) ?_
  refine k_callSi (As := [.int (ww >>> ((nI 6) &&& 31)), .int (nI 5)]) (rest := []) ⟨hx, hb, hml, hown, hts⟩ (c_L_low l (ww >>> ((nI 6) &&& 31)) 5 (by decide) (by decide)) (va_cwS 2 hts gL_law_L_low rfl rfl rfl (by decide +kernel) ⟨Nat.le_of_ble_eq_true rfl, Nat.le_of_ble_eq_true rfl⟩) k_bl_tt (fun _ _ _ => trivial) rfl hl.1 rfl (Nat.le_of_ble_eq_true rfl) dL_law_173 ⟨Nat.le_of_ble_eq_true rfl, Nat.le_of_ble_eq_true rfl⟩ ?_
  obtain ⟨y1, e_y1⟩ : ∃ z, lowN (ww >>> ((nI 6) &&& 31)) 5 = z := ⟨_, rfl⟩
  have h_y1 : y1 < 5 := by rw [← e_y1]; exact lowN_lt _ (by decide)
  refine lv_as (y := nI y1) (congrArg nI e_y1) ?_
  refine lv_istore (lv' := [(18, .int (nI y1)), (17, .int (nI x1)), (16, .int (nI gl)), (0, .ref b), (1, .ref (q 0)), (2, .ref a1), (3, .ref a2), (4, .long co), (6, .int (nI turn)), (7, .int vv), (8, .int ww), (15, .int (nI 1))]) hx hb dL_law_176 hl (by decide) rfl (fun ls hl => ?_)
  refine lv_iload hx hb dL_law_178 (lv_at hl 10 rfl) ?_
  refine lv_bipush (v := nI 9) hx hb dL_law_180 (by decide) ?_
  refine lv_ishr hx hb dL_law_182 ?_
  refine lv_iconst (v := nI 5) hx hb dL_law_183 (by decide) ?_
  refine k_callSi (As := [.int (ww >>> ((nI 9) &&& 31)), .int (nI 5)]) (rest := []) ⟨hx, hb, hml, hown, hts⟩ (c_L_low l (ww >>> ((nI 9) &&& 31)) 5 (by decide) (by decide)) (va_cwS 2 hts gL_law_L_low rfl rfl rfl (by decide +kernel) ⟨Nat.le_of_ble_eq_true rfl, Nat.le_of_ble_eq_true rfl⟩) k_bl_tt (fun _ _ _ => trivial) rfl hl.1 rfl (Nat.le_of_ble_eq_true rfl) dL_law_184 ⟨Nat.le_of_ble_eq_true rfl, Nat.le_of_ble_eq_true rfl⟩ ?_
  obtain ⟨far, e_far⟩ : ∃ z, lowN (ww >>> ((nI 9) &&& 31)) 5 = z := ⟨_, rfl⟩
  have h_far : far < 5 := by rw [← e_far]; exact lowN_lt _ (by decide)
  refine lv_as (y := nI far) (congrArg nI e_far) ?_
  refine lv_istore (lv' := [(19, .int (nI far)), (18, .int (nI y1)), (17, .int (nI x1)), (16, .int (nI gl)), (0, .ref b), (1, .ref (q 0)), (2, .ref a1), (3, .ref a2), (4, .long co), (6, .int (nI turn)), (7, .int vv), (8, .int ww), (15, .int (nI 1))]) hx hb dL_law_187 hl (by decide) rfl (fun ls hl => ?_)
  refine W.joinI (pc2 := 218) (st2 := []) (J := jX x1 far) (fun j_218 => ?_) (fun dx hdx => ?_)
  · refine lv_iload hx hb dL_law_189 (lv_at hl 2 rfl) ?_
    refine lv_iload hx hb dL_law_191 (lv_at hl 0 rfl) ?_
    refine lv_iadd hx hb dL_law_193 ?_
    refine lv_as (y := nI (x1 + far)) (nI_add _ _) ?_
    refine lv_iconst (v := nI 5) hx hb dL_law_194 (by decide) ?_
    refine n_icmp_ge (tgt := 203) hx hb dL_law_195 (by decide) (by omega) (by omega) (fun c_195 => ?_) (fun c_195 => ?_)
    · refine lv_iload hx hb dL_law_203 (lv_at hl 2 rfl) ?_
      refine lv_iload hx hb dL_law_205 (lv_at hl 0 rfl) ?_
      refine lv_isub hx hb dL_law_207 ?_
      refine lv_if_lt (tgt := 217) hx hb dL_law_208 (by decide) (fun c_208 => ?_) (fun c_208 => ?_)
      · refine lv_iconst (v := nI 0) hx hb dL_law_217 (by decide) ?_
        exact j_218 _ (jX_c h_x1)
      · refine lv_iload hx hb dL_law_211 (lv_at hl 0 rfl) ?_
        refine lv_ineg hx hb dL_law_213 ?_
        refine lv_goto (tgt := 218) hx hb dL_law_214 (by decide) ?_
        exact j_218 _ (jX_b h_x1 h_far c_208)
    · refine lv_iload hx hb dL_law_198 (lv_at hl 0 rfl) ?_
      refine lv_goto (tgt := 218) hx hb dL_law_200 (by decide) ?_
      exact j_218 _ (jX_a h_x1 h_far c_195)
  · obtain ⟨c1, hc1, ec1, oc1⟩ := hdx
    refine lv_istore (lv' := [(20, .int dx), (19, .int (nI far)), (18, .int (nI y1)), (17, .int (nI x1)), (16, .int (nI gl)), (0, .ref b), (1, .ref (q 0)), (2, .ref a1), (3, .ref a2), (4, .long co), (6, .int (nI turn)), (7, .int vv), (8, .int ww), (15, .int (nI 1))]) hx hb dL_law_218 hl (by decide) rfl (fun ls hl => ?_)
    refine W.joinI (pc2 := 256) (st2 := []) (J := jY y1 far dx) (fun j_256 => ?_) (fun dy hdy => ?_)
    · refine lv_iload hx hb dL_law_220 (lv_at hl 12 rfl) ?_
      refine lv_bipush (v := nI 12) hx hb dL_law_222 (by decide) ?_
      refine lv_ishr hx hb dL_law_224 ?_
      refine lv_iconst (v := nI 3) hx hb dL_law_225 (by decide) ?_
      refine k_callSi (As := [.int (ww >>> ((nI 12) &&& 31)), .int (nI 3)]) (rest := []) ⟨hx, hb, hml, hown, hts⟩ (c_L_low l (ww >>> ((nI 12) &&& 31)) 3 (by decide) (by decide)) (va_cwS 2 hts gL_law_L_low rfl rfl rfl (by decide +kernel) ⟨Nat.le_of_ble_eq_true rfl, Nat.le_of_ble_eq_true rfl⟩) k_bl_tt (fun _ _ _ => trivial) rfl hl.1 rfl (Nat.le_of_ble_eq_true rfl) dL_law_226 ⟨Nat.le_of_ble_eq_true rfl, Nat.le_of_ble_eq_true rfl⟩ ?_
      obtain ⟨y226, e_y226⟩ : ∃ z, lowN (ww >>> ((nI 12) &&& 31)) 3 = z := ⟨_, rfl⟩
      have h_y226 : y226 < 3 := by rw [← e_y226]; exact lowN_lt _ (by decide)
      refine lv_as (y := nI y226) (congrArg nI e_y226) ?_
      refine n_if_ne (tgt := 236) hx hb dL_law_229 (by decide) (by omega) (fun c_229 => ?_) (fun c_229 => ?_)
      · refine lv_iload hx hb dL_law_236 (lv_at hl 2 rfl) ?_
        refine lv_iload hx hb dL_law_238 (lv_at hl 1 rfl) ?_
        refine lv_iadd hx hb dL_law_240 ?_
        refine lv_as (y := nI (y1 + far)) (nI_add _ _) ?_
        refine lv_iconst (v := nI 5) hx hb dL_law_241 (by decide) ?_
        refine n_icmp_ge (tgt := 255) hx hb dL_law_242 (by decide) (by omega) (by omega) (fun c_242 => ?_) (fun c_242 => ?_)
        · refine lv_iconst (v := nI 0) hx hb dL_law_255 (by decide) ?_
          exact j_256 _ (jY_c h_y1)
        · refine lv_iload hx hb dL_law_245 (lv_at hl 0 rfl) ?_
          refine lv_if_eq (tgt := 255) hx hb dL_law_247 (by decide) (fun c_247 => ?_) (fun c_247 => ?_)
          · refine lv_iconst (v := nI 0) hx hb dL_law_255 (by decide) ?_
            exact j_256 _ (jY_c h_y1)
          · refine lv_iload hx hb dL_law_250 (lv_at hl 1 rfl) ?_
            refine lv_goto (tgt := 256) hx hb dL_law_252 (by decide) ?_
            exact j_256 _ (jY_a h_far c_242 c_247)
      · refine lv_iconst (v := nI 0) hx hb dL_law_232 (by decide) ?_
        refine lv_goto (tgt := 256) hx hb dL_law_233 (by decide) ?_
        exact j_256 _ (jY_c h_y1)
    · obtain ⟨d1, hd1, ed1, od1⟩ := hdy
      have hln := ln_of oc1 od1
      refine lv_istore (lv' := [(21, .int dy), (20, .int dx), (19, .int (nI far)), (18, .int (nI y1)), (17, .int (nI x1)), (16, .int (nI gl)), (0, .ref b), (1, .ref (q 0)), (2, .ref a1), (3, .ref a2), (4, .long co), (6, .int (nI turn)), (7, .int vv), (8, .int ww), (15, .int (nI 1))]) hx hb dL_law_256 hl (by decide) rfl (fun ls hl => ?_)
      refine W.joinI (pc2 := 275) (st2 := []) (J := fun _ => True) (fun j_275 => ?_) (fun bk _hbk => ?_)
      · refine lv_iload hx hb dL_law_258 (lv_at hl 13 rfl) ?_
        refine lv_bipush (v := nI 14) hx hb dL_law_260 (by decide) ?_
        refine lv_ishr hx hb dL_law_262 ?_
        refine lv_iconst (v := nI 4) hx hb dL_law_263 (by decide) ?_
        refine k_callSi (As := [.int (ww >>> ((nI 14) &&& 31)), .int (nI 4)]) (rest := []) ⟨hx, hb, hml, hown, hts⟩ (c_L_low l (ww >>> ((nI 14) &&& 31)) 4 (by decide) (by decide)) (va_cwS 2 hts gL_law_L_low rfl rfl rfl (by decide +kernel) ⟨Nat.le_of_ble_eq_true rfl, Nat.le_of_ble_eq_true rfl⟩) k_bl_tt (fun _ _ _ => trivial) rfl hl.1 rfl (Nat.le_of_ble_eq_true rfl) dL_law_264 ⟨Nat.le_of_ble_eq_true rfl, Nat.le_of_ble_eq_true rfl⟩ ?_
        obtain ⟨y264, e_y264⟩ : ∃ z, lowN (ww >>> ((nI 14) &&& 31)) 4 = z := ⟨_, rfl⟩
        have h_y264 : y264 < 4 := by rw [← e_y264]; exact lowN_lt _ (by decide)
        refine lv_as (y := nI y264) (congrArg nI e_y264) ?_
        refine n_if_le (tgt := 274) hx hb dL_law_267 (by decide) (by omega) (fun c_267 => ?_) (fun c_267 => ?_)
        · refine lv_iconst (v := nI 0) hx hb dL_law_274 (by decide) ?_
          exact j_275 _ (trivial)
        · refine lv_iconst (v := nI 1) hx hb dL_law_270 (by decide) ?_
          refine lv_goto (tgt := 275) hx hb dL_law_271 (by decide) ?_
          exact j_275 _ (trivial)
      · refine lv_istore (lv' := [(22, .int bk), (21, .int dy), (20, .int dx), (19, .int (nI far)), (18, .int (nI y1)), (17, .int (nI x1)), (16, .int (nI gl)), (0, .ref b), (1, .ref (q 0)), (2, .ref a1), (3, .ref a2), (4, .long co), (6, .int (nI turn)), (7, .int vv), (8, .int ww), (15, .int (nI 1))]) hx hb dL_law_275 hl (by decide) rfl (fun ls hl => ?_)
        refine lv_aload_n hx hb dL_law_277 rfl (lv_at hl 8 rfl) ?_
        refine lv_iload hx hb dL_law_278 (lv_at hl 6 rfl) ?_
        refine lv_iload hx hb dL_law_280 (lv_at hl 5 rfl) ?_
        refine lv_iload hx hb dL_law_282 (lv_at hl 4 rfl) ?_
        refine lv_iload hx hb dL_law_284 (lv_at hl 5 rfl) ?_
        refine lv_iload hx hb dL_law_286 (lv_at hl 2 rfl) ?_
        refine lv_iadd hx hb dL_law_288 ?_
        refine lv_as (y := nI c1) (ec1) ?_
        refine lv_iload hx hb dL_law_289 (lv_at hl 4 rfl) ?_
        refine lv_iload hx hb dL_law_291 (lv_at hl 1 rfl) ?_
        refine lv_iadd hx hb dL_law_293 ?_
        refine lv_as (y := nI d1) (ed1) ?_
        refine lv_iload hx hb dL_law_294 (lv_at hl 0 rfl) ?_
        refine k_callVW (wr := [(a1, .inl (cI, 32, .inl sg)), (a2, .inl (cI, 32, .inl lq))]) (As := [.int (nI gl), .int (nI x1), .int (nI y1), .int (nI c1), .int (nI d1), .int bk]) (rest := []) ⟨hx, hb, hml, hown, hts⟩ (c_X0_stroke l D cI q sh sp ld nm tx ds ct co kg ks gl x1 y1 c1 d1 bk h_gl h_x1 h_y1 hc1 hd1 hln hsh (k_D_tt (hD.sub [0, 1, 2, 3, 4, 5, 6, 7, 8] (by decide) rfl))) (cwV 6 hts gL_law_X0_stroke rfl rfl rfl (by decide +kernel) ⟨Nat.le_of_ble_eq_true rfl, Nat.le_of_ble_eq_true rfl⟩) k_B_bl (k_B_of (hP.sub [0, 1, 2, 3, 4, 5, 6, 7, 8] rfl) hK) (va_recv hK hP (ci := 0) (q0 := 0) rfl rfl) rfl hl.1 rfl (Nat.le_of_ble_eq_true rfl) dL_law_296 ⟨Nat.le_of_ble_eq_true rfl, Nat.le_of_ble_eq_true rfl⟩ hP hD hS [9, 10] [0, 1, 2, 3, 4, 5, 6, 7, 8] rfl rfl (fun _ => rfl) (fun u_296 H locs hu_296 hP hD hS hsz hkp => ?_)
        have hP : va_P D vwCl (wl cI q a1 a2 (upd sh gl (stk bk (sh gl) (lcN x1 y1 c1 d1))) sp ld nm tx ds ct co (nI 0) ks sg lq) H := hP.sub [2, 3, 4, 5, 6, 7, 8, 9, 10, 0, 1] rfl
        have hD : va_D (fun a : Nat => s.heap.size ≤ a) (wl cI q a1 a2 (upd sh gl (stk bk (sh gl) (lcN x1 y1 c1 d1))) sp ld nm tx ds ct co (nI 0) ks sg lq) := hD.sub [2, 3, 4, 5, 6, 7, 8, 9, 10, 0, 1] (by decide) rfl
        obtain ⟨ch, hch5, hch⟩ := df_stk h_x1 h_y1 hc1 hd1 hln (bk := bk) (hR.1 _ h_gl)
        refine lv_as (y := nI ch) (hch) ?_
        have hR := hR.stroke (g := gl) (S25_stk (bk := bk) (hR.1 _ h_gl) (S25_lcN h_x1 h_y1 hc1 hd1 hln))
        have hsh := hR.1
        refine lv_istore (lv' := [(23, .int (nI ch)), (22, .int bk), (21, .int dy), (20, .int dx), (19, .int (nI far)), (18, .int (nI y1)), (17, .int (nI x1)), (16, .int (nI gl)), (0, .ref b), (1, .ref (q 0)), (2, .ref a1), (3, .ref a2), (4, .long co), (6, .int (nI turn)), (7, .int vv), (8, .int ww), (15, .int (nI 1))]) hx hb dL_law_299 hl (by decide) rfl (fun ls hl => ?_)
        refine lv_iload hx hb dL_law_301 (lv_at hl 0 rfl) ?_
        refine n_if_lt (tgt := 341) hx hb dL_law_303 (by decide) (by omega) ?_
        refine lv_iload hx hb dL_law_306 (lv_at hl 0 rfl) ?_
        refine lv_iconst (v := nI 5) hx hb dL_law_308 (by decide) ?_
        refine n_icmp_gt (tgt := 341) hx hb dL_law_309 (by decide) (by omega) (by omega) (fun c_309 => ?_) (fun c_309 => ?_)
        · exact absurd hch5 (by omega)
        · refine lv_aload_n hx hb dL_law_312 rfl (lv_at hl 9 rfl) ?_
          refine lv_iload hx hb dL_law_313 (lv_at hl 7 rfl) ?_
          refine lv_iload hx hb dL_law_315 (lv_at hl 6 rfl) ?_
          refine lv_iload hx hb dL_law_317 (lv_at hl 5 rfl) ?_
          refine lv_iload hx hb dL_law_319 (lv_at hl 6 rfl) ?_
          refine lv_iload hx hb dL_law_321 (lv_at hl 3 rfl) ?_
          refine lv_iadd hx hb dL_law_323 ?_
          refine lv_as (y := nI c1) (ec1) ?_
          refine lv_iload hx hb dL_law_324 (lv_at hl 5 rfl) ?_
          refine lv_iload hx hb dL_law_326 (lv_at hl 2 rfl) ?_
          refine lv_iadd hx hb dL_law_328 ?_
          refine lv_as (y := nI d1) (ed1) ?_
          refine lv_iload hx hb dL_law_329 (lv_at hl 1 rfl) ?_
          refine k_callVW (wr := [(a1, .inl (cI, 32, .inl sg)), (a2, .inl (cI, 32, .inl lq))]) (As := [.int (nI gl), .int (nI x1), .int (nI y1), .int (nI c1), .int (nI d1), .int bk]) (rest := []) ⟨hx, hb, hml, hown, hts⟩ (c_X0_stroke l D cI q (upd sh gl (stk bk (sh gl) (lcN x1 y1 c1 d1))) sp ld nm tx ds ct co (nI 0) ks gl x1 y1 c1 d1 bk h_gl h_x1 h_y1 hc1 hd1 hln hsh (k_D_tt (hD.sub [0, 1, 2, 3, 4, 5, 6, 7, 8] (by decide) rfl))) (cwV 6 hts gL_law_X0_stroke rfl rfl rfl (by decide +kernel) ⟨Nat.le_of_ble_eq_true rfl, Nat.le_of_ble_eq_true rfl⟩) k_B_bl (k_B_of (hP.sub [0, 1, 2, 3, 4, 5, 6, 7, 8] rfl) hK) (va_recv hK hP (ci := 0) (q0 := 0) rfl rfl) rfl hl.1 rfl (Nat.le_of_ble_eq_true rfl) dL_law_331 ⟨Nat.le_of_ble_eq_true rfl, Nat.le_of_ble_eq_true rfl⟩ hP hD hS [9, 10] [0, 1, 2, 3, 4, 5, 6, 7, 8] rfl rfl (fun _ => rfl) (fun u_331 H locs hu_331 hP hD hS hsz hkp => ?_)
          have hP : va_P D vwCl (wl cI q a1 a2 (upd (upd sh gl (stk bk (sh gl) (lcN x1 y1 c1 d1))) gl (stk bk ((upd sh gl (stk bk (sh gl) (lcN x1 y1 c1 d1))) gl) (lcN x1 y1 c1 d1))) sp ld nm tx ds ct co (nI 0) ks sg lq) H := hP.sub [2, 3, 4, 5, 6, 7, 8, 9, 10, 0, 1] rfl
          have hD : va_D (fun a : Nat => s.heap.size ≤ a) (wl cI q a1 a2 (upd (upd sh gl (stk bk (sh gl) (lcN x1 y1 c1 d1))) gl (stk bk ((upd sh gl (stk bk (sh gl) (lcN x1 y1 c1 d1))) gl) (lcN x1 y1 c1 d1))) sp ld nm tx ds ct co (nI 0) ks sg lq) := hD.sub [2, 3, 4, 5, 6, 7, 8, 9, 10, 0, 1] (by decide) rfl
          refine lv_as (y := nI 0) (by rw [pk_us, stk_stk]; exact df_self _) ?_
          have hR := hR.stroke (g := gl) (S25_stk (bk := bk) (hR.1 _ h_gl) (S25_lcN h_x1 h_y1 hc1 hd1 hln))
          refine n_if_ne (tgt := 341) hx hb dL_law_334 (by decide) (by decide) (fun c_334 => absurd c_334 (by decide)) (fun _ => ?_)
          refine lv_iconst (v := nI 1) hx hb dL_law_337 (by decide) ?_
          refine lv_goto (tgt := 342) hx hb dL_law_338 (by decide) ?_
          refine lv_istore (lv' := [(15, .int (nI 1)), (23, .int (nI ch)), (22, .int bk), (21, .int dy), (20, .int dx), (19, .int (nI far)), (18, .int (nI y1)), (17, .int (nI x1)), (16, .int (nI gl)), (0, .ref b), (1, .ref (q 0)), (2, .ref a1), (3, .ref a2), (4, .long co), (6, .int (nI turn)), (7, .int vv), (8, .int ww)]) hx hb dL_law_342 hl (by decide) rfl (fun ls hl => ?_)
          refine lv_goto (tgt := 700) hx hb dL_law_344 (by decide) ?_
          exact hk _ _ _ _ (lqI_mk hR hP hD hS) (lv_sub hl [9, 10, 11, 12, 13, 14, 15, 16, 0] rfl)
set_option maxHeartbeats 4000000 in
set_option maxRecDepth 100000 in
theorem lb_space {p : Program} {l : Launch} {e : Env} {s : State} {m : MethodId} {below : List Frame} {meth : Method} {c : Code} {b L : Nat} {xs : Nat → Int32} {D : va_G} {cI : ClassId} {q : Nat → Nat} {a1 a2 : Nat} {co : Int64} {H : Heap} {locs : List Loc} {ls : Array Slot} {turn : Nat} {vv ww : Int32} (hC : lqC p s m meth c b L xs D cI)  (hI : lqI D cI q a1 a2 co s H locs) (hl : lv_has ls 24 (lqM b q a1 a2 co turn vv ww)) (hk : ∀ (H : Heap) (locs : List Loc) (ls : Array Slot) (co : Int64), lqI D cI q a1 a2 co s H locs → lv_has ls 24 (lqM b q a1 a2 co turn vv ww) → W p l e room_1 s m #[Value.ref b] below meth c H locs 96 1076 (lw_Z below #[Value.ref b] s) (F0 m 700 ls [])) : W p l e room_1 s m #[Value.ref b] below meth c H locs 96 1076 (lw_Z below #[Value.ref b] s) (F0 m 353 ls []) := by
  obtain ⟨C0, hK, hL⟩ := id hC
  obtain ⟨hx, hb, hr, hml, hown, hts0, hX, hbl, hlocks, hgv⟩ := id C0
  have hts : ∀ w ∈ wsL_law, w.before #[Value.ref b] s = true := fun w h => hts0 w (wsL_law_in w h)
  have hown : s.vm.findClass RL = some m.cls := hown
  have hbA : ¬ (fun a : Nat => s.heap.size ≤ a) b := Nat.not_le.mpr hbl
  obtain ⟨sh, sp, ld, nm, tx, ds, ct, kg, ks, sg, lq, T, K, Ld, NT, NK, hR, hP, hD, hS⟩ := hI
  have hl : lv_has ls 24 [(0, .ref b), (1, .ref (q 0)), (2, .ref a1), (3, .ref a2), (4, .long co), (6, .int (nI turn)), (7, .int vv), (8, .int ww), (15, .int (nI 1))] := hl
  refine lv_iload hx hb dL_law_353 (lv_at hl 7 rfl) ?_
  refine lv_bipush (v := nI 6) hx hb dL_law_355 (by decide) ?_
  refine lv_ishr hx hb dL_law_357 ?_
  refine lv_iconst (v := nI 5) hx hb dL_law_358 (by decide) ?_
  refine k_callSi (As := [.int (ww >>> ((nI 6) &&& 31)), .int (nI 5)]) (rest := []) ⟨hx, hb, hml, hown, hts⟩ (c_L_low l (ww >>> ((nI 6) &&& 31)) 5 (by decide) (by decide)) (va_cwS 2 hts gL_law_L_low rfl rfl rfl (by decide +kernel) ⟨Nat.le_of_ble_eq_true rfl, Nat.le_of_ble_eq_true rfl⟩) k_bl_tt (fun _ _ _ => trivial) rfl hl.1 rfl (Nat.le_of_ble_eq_true rfl) dL_law_359 ⟨Nat.le_of_ble_eq_true rfl, Nat.le_of_ble_eq_true rfl⟩ ?_
  obtain ⟨y359, e_y359⟩ : ∃ z, lowN (ww >>> ((nI 6) &&& 31)) 5 = z := ⟨_, rfl⟩
  have h_y359 : y359 < 5 := by rw [← e_y359]; exact lowN_lt _ (by decide)
  refine lv_as (y := nI y359) (congrArg nI e_y359) ?_
  refine lv_iconst (v := nI 1) hx hb dL_law_362 (by decide) ?_
  refine lv_isub hx hb dL_law_363 ?_
  obtain ⟨hv1, hv2⟩ := sp_rg y359 h_y359
  refine lv_as (y := nI y359 - nI 1) (rfl) ?_
  refine lv_istore (lv' := [(16, .int (nI y359 - nI 1)), (0, .ref b), (1, .ref (q 0)), (2, .ref a1), (3, .ref a2), (4, .long co), (6, .int (nI turn)), (7, .int vv), (8, .int ww), (15, .int (nI 1))]) hx hb dL_law_364 hl (by decide) rfl (fun ls hl => ?_)
  refine lv_aload_n hx hb dL_law_366 rfl (lv_at hl 2 rfl) ?_
  refine lv_iload hx hb dL_law_367 (lv_at hl 8 rfl) ?_
  refine lv_bipush (v := nI 8) hx hb dL_law_369 (by decide) ?_
  refine k_callSi (As := [.int ww, .int (nI 8)]) (rest := [.ref (q 0)]) ⟨hx, hb, hml, hown, hts⟩ (c_L_low l ww 8 (by decide) (by decide)) (va_cwS 2 hts gL_law_L_low rfl rfl rfl (by decide +kernel) ⟨Nat.le_of_ble_eq_true rfl, Nat.le_of_ble_eq_true rfl⟩) k_bl_tt (fun _ _ _ => trivial) rfl hl.1 rfl (Nat.le_of_ble_eq_true rfl) dL_law_371 ⟨Nat.le_of_ble_eq_true rfl, Nat.le_of_ble_eq_true rfl⟩ ?_
  obtain ⟨y371, e_y371⟩ : ∃ z, lowN ww 8 = z := ⟨_, rfl⟩
  have h_y371 : y371 < 8 := by rw [← e_y371]; exact lowN_lt _ (by decide)
  refine lv_as (y := nI y371) (congrArg nI e_y371) ?_
  refine lv_iload hx hb dL_law_374 (lv_at hl 8 rfl) ?_
  refine lv_iconst (v := nI 3) hx hb dL_law_376 (by decide) ?_
  refine lv_ishr hx hb dL_law_377 ?_
  refine lv_bipush (v := nI 8) hx hb dL_law_378 (by decide) ?_
  refine k_callSi (As := [.int (ww >>> ((nI 3) &&& 31)), .int (nI 8)]) (rest := [.int (nI y371), .ref (q 0)]) ⟨hx, hb, hml, hown, hts⟩ (c_L_low l (ww >>> ((nI 3) &&& 31)) 8 (by decide) (by decide)) (va_cwS 2 hts gL_law_L_low rfl rfl rfl (by decide +kernel) ⟨Nat.le_of_ble_eq_true rfl, Nat.le_of_ble_eq_true rfl⟩) k_bl_tt (fun _ _ _ => trivial) rfl hl.1 rfl (Nat.le_of_ble_eq_true rfl) dL_law_380 ⟨Nat.le_of_ble_eq_true rfl, Nat.le_of_ble_eq_true rfl⟩ ?_
  obtain ⟨y380, e_y380⟩ : ∃ z, lowN (ww >>> ((nI 3) &&& 31)) 8 = z := ⟨_, rfl⟩
  have h_y380 : y380 < 8 := by rw [← e_y380]; exact lowN_lt _ (by decide)
  refine lv_as (y := nI y380) (congrArg nI e_y380) ?_
  refine lv_iload hx hb dL_law_383 (lv_at hl 0 rfl) ?_
  refine k_callVW (wr := [(a1, .inl (cI, 32, .inl sg)), (a2, .inl (cI, 32, .inl lq))]) (As := [.int (nI y371), .int (nI y380), .int (nI y359 - nI 1)]) (rest := []) ⟨hx, hb, hml, hown, hts⟩ (c_X0_space l D cI q sh sp ld nm tx ds ct co kg ks y371 y380 (nI y359 - nI 1) h_y371 h_y380 hv1 hv2 (k_D_tt (hD.sub [0, 1, 2, 3, 4, 5, 6, 7, 8] (by decide) rfl))) (cwV 3 hts gL_law_X0_space rfl rfl rfl (by decide +kernel) ⟨Nat.le_of_ble_eq_true rfl, Nat.le_of_ble_eq_true rfl⟩) k_B_bl (k_B_of (hP.sub [0, 1, 2, 3, 4, 5, 6, 7, 8] rfl) hK) (va_recv hK hP (ci := 0) (q0 := 0) rfl rfl) rfl hl.1 rfl (Nat.le_of_ble_eq_true rfl) dL_law_385 ⟨Nat.le_of_ble_eq_true rfl, Nat.le_of_ble_eq_true rfl⟩ hP hD hS [9, 10] [0, 1, 2, 3, 4, 5, 6, 7, 8] rfl rfl (fun _ => rfl) (fun u_385 H locs hu_385 hP hD hS hsz hkp => ?_)
  have hP : va_P D vwCl (wl cI q a1 a2 sh (upd sp (y371 * 8 + y380) (nI y359 - nI 1)) ld nm tx ds ct co kg ks sg lq) H := hP.sub [2, 3, 4, 5, 6, 7, 8, 9, 10, 0, 1] rfl
  have hD : va_D (fun a : Nat => s.heap.size ≤ a) (wl cI q a1 a2 sh (upd sp (y371 * 8 + y380) (nI y359 - nI 1)) ld nm tx ds ct co kg ks sg lq) := hD.sub [2, 3, 4, 5, 6, 7, 8, 9, 10, 0, 1] (by decide) rfl
  refine lv_pop hx hb dL_law_388 rfl ?_
  refine lv_aload_n hx hb dL_law_389 rfl (lv_at hl 2 rfl) ?_
  refine lv_iload hx hb dL_law_390 (lv_at hl 8 rfl) ?_
  refine lv_bipush (v := nI 8) hx hb dL_law_392 (by decide) ?_
  refine k_callSi (As := [.int ww, .int (nI 8)]) (rest := [.ref (q 0)]) ⟨hx, hb, hml, hown, hts⟩ (c_L_low l ww 8 (by decide) (by decide)) (va_cwS 2 hts gL_law_L_low rfl rfl rfl (by decide +kernel) ⟨Nat.le_of_ble_eq_true rfl, Nat.le_of_ble_eq_true rfl⟩) k_bl_tt (fun _ _ _ => trivial) rfl hl.1 rfl (Nat.le_of_ble_eq_true rfl) dL_law_394 ⟨Nat.le_of_ble_eq_true rfl, Nat.le_of_ble_eq_true rfl⟩ ?_
  refine lv_as (y := nI y371) (congrArg nI e_y371) ?_
  refine lv_iload hx hb dL_law_397 (lv_at hl 8 rfl) ?_
  refine lv_iconst (v := nI 3) hx hb dL_law_399 (by decide) ?_
  refine lv_ishr hx hb dL_law_400 ?_
  refine lv_bipush (v := nI 8) hx hb dL_law_401 (by decide) ?_
  refine k_callSi (As := [.int (ww >>> ((nI 3) &&& 31)), .int (nI 8)]) (rest := [.int (nI y371), .ref (q 0)]) ⟨hx, hb, hml, hown, hts⟩ (c_L_low l (ww >>> ((nI 3) &&& 31)) 8 (by decide) (by decide)) (va_cwS 2 hts gL_law_L_low rfl rfl rfl (by decide +kernel) ⟨Nat.le_of_ble_eq_true rfl, Nat.le_of_ble_eq_true rfl⟩) k_bl_tt (fun _ _ _ => trivial) rfl hl.1 rfl (Nat.le_of_ble_eq_true rfl) dL_law_403 ⟨Nat.le_of_ble_eq_true rfl, Nat.le_of_ble_eq_true rfl⟩ ?_
  refine lv_as (y := nI y380) (congrArg nI e_y380) ?_
  refine lv_iload hx hb dL_law_406 (lv_at hl 0 rfl) ?_
  refine k_callVW (wr := [(a1, .inl (cI, 32, .inl sg)), (a2, .inl (cI, 32, .inl lq))]) (As := [.int (nI y371), .int (nI y380), .int (nI y359 - nI 1)]) (rest := []) ⟨hx, hb, hml, hown, hts⟩ (c_X0_space l D cI q sh (upd sp (y371 * 8 + y380) (nI y359 - nI 1)) ld nm tx ds ct co kg ks y371 y380 (nI y359 - nI 1) h_y371 h_y380 hv1 hv2 (k_D_tt (hD.sub [0, 1, 2, 3, 4, 5, 6, 7, 8] (by decide) rfl))) (cwV 3 hts gL_law_X0_space rfl rfl rfl (by decide +kernel) ⟨Nat.le_of_ble_eq_true rfl, Nat.le_of_ble_eq_true rfl⟩) k_B_bl (k_B_of (hP.sub [0, 1, 2, 3, 4, 5, 6, 7, 8] rfl) hK) (va_recv hK hP (ci := 0) (q0 := 0) rfl rfl) rfl hl.1 rfl (Nat.le_of_ble_eq_true rfl) dL_law_408 ⟨Nat.le_of_ble_eq_true rfl, Nat.le_of_ble_eq_true rfl⟩ hP hD hS [9, 10] [0, 1, 2, 3, 4, 5, 6, 7, 8] rfl rfl (fun _ => rfl) (fun u_408 H locs hu_408 hP hD hS hsz hkp => ?_)
  have hP : va_P D vwCl (wl cI q a1 a2 sh (upd (upd sp (y371 * 8 + y380) (nI y359 - nI 1)) (y371 * 8 + y380) (nI y359 - nI 1)) ld nm tx ds ct co kg ks sg lq) H := hP.sub [2, 3, 4, 5, 6, 7, 8, 9, 10, 0, 1] rfl
  have hD : va_D (fun a : Nat => s.heap.size ≤ a) (wl cI q a1 a2 sh (upd (upd sp (y371 * 8 + y380) (nI y359 - nI 1)) (y371 * 8 + y380) (nI y359 - nI 1)) ld nm tx ds ct co kg ks sg lq) := hD.sub [2, 3, 4, 5, 6, 7, 8, 9, 10, 0, 1] (by decide) rfl
  refine lv_as (y := nI y359 - nI 1) (pk_us) ?_
  refine lv_iload hx hb dL_law_411 (lv_at hl 0 rfl) ?_
  refine n_icmp_ne_mm (tgt := 420) hx hb dL_law_413 (by decide) ?_
  refine lv_iconst (v := nI 1) hx hb dL_law_416 (by decide) ?_
  refine lv_goto (tgt := 421) hx hb dL_law_417 (by decide) ?_
  refine lv_istore (lv' := [(15, .int (nI 1)), (16, .int (nI y359 - nI 1)), (0, .ref b), (1, .ref (q 0)), (2, .ref a1), (3, .ref a2), (4, .long co), (6, .int (nI turn)), (7, .int vv), (8, .int ww)]) hx hb dL_law_421 hl (by decide) rfl (fun ls hl => ?_)
  refine lv_goto (tgt := 700) hx hb dL_law_423 (by decide) ?_
  exact hk _ _ _ _ (lqI_mk hR hP hD hS) (lv_sub hl [2, 3, 4, 5, 6, 7, 8, 9, 0] rfl)
set_option maxHeartbeats 4000000 in
set_option maxRecDepth 100000 in
theorem lb_lead {p : Program} {l : Launch} {e : Env} {s : State} {m : MethodId} {below : List Frame} {meth : Method} {c : Code} {b L : Nat} {xs : Nat → Int32} {D : va_G} {cI : ClassId} {q : Nat → Nat} {a1 a2 : Nat} {co : Int64} {H : Heap} {locs : List Loc} {ls : Array Slot} {turn : Nat} {vv ww : Int32} (hC : lqC p s m meth c b L xs D cI) {p0 x0 k t : Nat} (hp : p0 < 8) (hx0 : x0 < 4) (hk1 : 1 ≤ k) (hk5 : k ≤ 5) (htk : t < 8 ^ k) (hI : lqI D cI q a1 a2 co s H locs) (hl : lv_has ls 24 (lqN b q a1 a2 co turn vv ww p0 x0 k t)) (hk : ∀ (H : Heap) (locs : List Loc) (ls : Array Slot) (co : Int64), lqI D cI q a1 a2 co s H locs → lv_has ls 24 (lqM b q a1 a2 co turn vv ww) → W p l e room_1 s m #[Value.ref b] below meth c H locs 96 1076 (lw_Z below #[Value.ref b] s) (F0 m 700 ls [])) : W p l e room_1 s m #[Value.ref b] below meth c H locs 96 1076 (lw_Z below #[Value.ref b] s) (F0 m 433 ls []) := by
  obtain ⟨C0, hK, hL⟩ := id hC
  obtain ⟨hx, hb, hr, hml, hown, hts0, hX, hbl, hlocks, hgv⟩ := id C0
  have hts : ∀ w ∈ wsL_law, w.before #[Value.ref b] s = true := fun w h => hts0 w (wsL_law_in w h)
  have hown : s.vm.findClass RL = some m.cls := hown
  have hbA : ¬ (fun a : Nat => s.heap.size ≤ a) b := Nat.not_le.mpr hbl
  obtain ⟨sh, sp, ld, nm, tx, ds, ct, kg, ks, sg, lq, T, K, Ld, NT, NK, hR, hP, hD, hS⟩ := hI
  have hl : lv_has ls 24 [(0, .ref b), (1, .ref (q 0)), (2, .ref a1), (3, .ref a2), (4, .long co), (6, .int (nI turn)), (7, .int vv), (8, .int ww), (15, .int (nI 1)), (10, .int (nI p0)), (11, .int (nI x0)), (12, .int (nI (p0 * 4 + x0))), (13, .int (nI k)), (14, .int (nI t))] := hl
  refine lv_iload hx hb dL_law_433 (lv_at hl 7 rfl) ?_
  refine lv_bipush (v := nI 6) hx hb dL_law_435 (by decide) ?_
  refine lv_ishr hx hb dL_law_437 ?_
  refine lv_bipush (v := nI 9) hx hb dL_law_438 (by decide) ?_
  refine k_callSi (As := [.int (ww >>> ((nI 6) &&& 31)), .int (nI 9)]) (rest := []) ⟨hx, hb, hml, hown, hts⟩ (c_L_low l (ww >>> ((nI 6) &&& 31)) 9 (by decide) (by decide)) (va_cwS 2 hts gL_law_L_low rfl rfl rfl (by decide +kernel) ⟨Nat.le_of_ble_eq_true rfl, Nat.le_of_ble_eq_true rfl⟩) k_bl_tt (fun _ _ _ => trivial) rfl hl.1 rfl (Nat.le_of_ble_eq_true rfl) dL_law_440 ⟨Nat.le_of_ble_eq_true rfl, Nat.le_of_ble_eq_true rfl⟩ ?_
  obtain ⟨y440, e_y440⟩ : ∃ z, lowN (ww >>> ((nI 6) &&& 31)) 9 = z := ⟨_, rfl⟩
  have h_y440 : y440 < 9 := by rw [← e_y440]; exact lowN_lt _ (by decide)
  refine lv_as (y := nI y440) (congrArg nI e_y440) ?_
  refine lv_iconst (v := nI 1) hx hb dL_law_443 (by decide) ?_
  refine lv_isub hx hb dL_law_444 ?_
  obtain ⟨a, ha8, ea⟩ : ∃ a, a ≤ 8 ∧ nI y440 - nI 1 = ix a := ⟨_, by split <;> omega, ld_rg y440 h_y440⟩
  refine lv_as (y := ix a) (ea) ?_
  refine lv_istore (lv' := [(16, .int (ix a)), (0, .ref b), (1, .ref (q 0)), (2, .ref a1), (3, .ref a2), (4, .long co), (6, .int (nI turn)), (7, .int vv), (8, .int ww), (15, .int (nI 1)), (10, .int (nI p0)), (11, .int (nI x0)), (12, .int (nI (p0 * 4 + x0))), (13, .int (nI k)), (14, .int (nI t))]) hx hb dL_law_445 hl (by decide) rfl (fun ls hl => ?_)
  refine lv_aload_n hx hb dL_law_447 rfl (lv_at hl 2 rfl) ?_
  refine lv_iload hx hb dL_law_448 (lv_at hl 10 rfl) ?_
  refine lv_iload hx hb dL_law_450 (lv_at hl 11 rfl) ?_
  refine lv_iload hx hb dL_law_452 (lv_at hl 0 rfl) ?_
  refine k_callVW (wr := [(a1, .inl (cI, 32, .inl sg)), (a2, .inl (cI, 32, .inl lq))]) (As := [.int (nI p0), .int (nI x0), .int (ix a)]) (rest := []) ⟨hx, hb, hml, hown, hts⟩ (c_X0_lead l D cI q sh sp ld nm tx ds ct co kg ks p0 x0 hp hx0 a ha8 (k_D_tt (hD.sub [0, 1, 2, 3, 4, 5, 6, 7, 8] (by decide) rfl))) (cwV 3 hts gL_law_X0_lead rfl rfl rfl (by decide +kernel) ⟨Nat.le_of_ble_eq_true rfl, Nat.le_of_ble_eq_true rfl⟩) k_B_bl (k_B_of (hP.sub [0, 1, 2, 3, 4, 5, 6, 7, 8] rfl) hK) (va_recv hK hP (ci := 0) (q0 := 0) rfl rfl) rfl hl.1 rfl (Nat.le_of_ble_eq_true rfl) dL_law_454 ⟨Nat.le_of_ble_eq_true rfl, Nat.le_of_ble_eq_true rfl⟩ hP hD hS [9, 10] [0, 1, 2, 3, 4, 5, 6, 7, 8] rfl rfl (fun _ => rfl) (fun u_454 H locs hu_454 hP hD hS hsz hkp => ?_)
  have hP : va_P D vwCl (wl cI q a1 a2 sh sp (upd ld (p0 * 4 + x0) (ix a)) nm tx ds ct co (nI 0) ks sg lq) H := hP.sub [2, 3, 4, 5, 6, 7, 8, 9, 10, 0, 1] rfl
  have hD : va_D (fun a : Nat => s.heap.size ≤ a) (wl cI q a1 a2 sh sp (upd ld (p0 * 4 + x0) (ix a)) nm tx ds ct co (nI 0) ks sg lq) := hD.sub [2, 3, 4, 5, 6, 7, 8, 9, 10, 0, 1] (by decide) rfl
  refine lv_as (y := ix (Ld (p0 * 4 + x0))) ((hR.hLd _ (by omega)).2) ?_
  refine lv_aload_n hx hb dL_law_457 rfl (lv_at hl 4 rfl) ?_
  refine lv_iload hx hb dL_law_458 (lv_at hl 12 rfl) ?_
  refine n_iald hx hb hK hP 10 0 rfl rfl (k := (p0 * 4 + x0)) (by omega) (Nat.le_of_ble_eq_true rfl) dL_law_460 ?_
  refine lv_as (y := ix (Ld (p0 * 4 + x0))) (hR.hlq _ (by omega)) ?_
  refine n_icmp_ne_mm (tgt := 468) hx hb dL_law_461 (by decide) ?_
  refine lv_iconst (v := nI 1) hx hb dL_law_464 (by decide) ?_
  refine lv_goto (tgt := 469) hx hb dL_law_465 (by decide) ?_
  refine lv_istore (lv' := [(15, .int (nI 1)), (16, .int (ix a)), (0, .ref b), (1, .ref (q 0)), (2, .ref a1), (3, .ref a2), (4, .long co), (6, .int (nI turn)), (7, .int vv), (8, .int ww), (10, .int (nI p0)), (11, .int (nI x0)), (12, .int (nI (p0 * 4 + x0))), (13, .int (nI k)), (14, .int (nI t))]) hx hb dL_law_469 hl (by decide) rfl (fun ls hl => ?_)
  refine lv_aload_n hx hb dL_law_471 rfl (lv_at hl 5 rfl) ?_
  refine lv_iload hx hb dL_law_472 (lv_at hl 12 rfl) ?_
  refine lv_iload hx hb dL_law_474 (lv_at hl 1 rfl) ?_
  refine n_iast hx hb hK hP hD hS 10 0 rfl rfl (k := (p0 * 4 + x0)) (by omega) (Nat.le_of_ble_eq_true rfl) dL_law_476 (fun H locs hP hD hS => ?_)
  have hP : va_P D vwCl (wl cI q a1 a2 sh sp (upd ld (p0 * 4 + x0) (ix a)) nm tx ds ct co (nI 0) ks sg (upd lq (p0 * 4 + x0) (ix a))) H := hP
  have hD : va_D (fun a : Nat => s.heap.size ≤ a) (wl cI q a1 a2 sh sp (upd ld (p0 * 4 + x0) (ix a)) nm tx ds ct co (nI 0) ks sg (upd lq (p0 * 4 + x0) (ix a))) := hD
  refine lv_goto (tgt := 700) hx hb dL_law_477 (by decide) ?_
  exact hk _ _ _ _ (lqI_mk (hR.lead ha8) hP hD hS) (lv_sub hl [2, 3, 4, 5, 6, 7, 8, 9, 0] rfl)
set_option maxHeartbeats 4000000 in
set_option maxRecDepth 100000 in
theorem lb_name {p : Program} {l : Launch} {e : Env} {s : State} {m : MethodId} {below : List Frame} {meth : Method} {c : Code} {b L : Nat} {xs : Nat → Int32} {D : va_G} {cI : ClassId} {q : Nat → Nat} {a1 a2 : Nat} {co : Int64} {H : Heap} {locs : List Loc} {ls : Array Slot} {turn : Nat} {vv ww : Int32} (hC : lqC p s m meth c b L xs D cI) {p0 x0 k t : Nat} (hp : p0 < 8) (hx0 : x0 < 4) (hk1 : 1 ≤ k) (hk5 : k ≤ 5) (htk : t < 8 ^ k) (hI : lqI D cI q a1 a2 co s H locs) (hl : lv_has ls 24 (lqN b q a1 a2 co turn vv ww p0 x0 k t)) (hk : ∀ (H : Heap) (locs : List Loc) (ls : Array Slot) (co : Int64), lqI D cI q a1 a2 co s H locs → lv_has ls 24 (lqM b q a1 a2 co turn vv ww) → W p l e room_1 s m #[Value.ref b] below meth c H locs 96 1076 (lw_Z below #[Value.ref b] s) (F0 m 700 ls [])) : W p l e room_1 s m #[Value.ref b] below meth c H locs 96 1076 (lw_Z below #[Value.ref b] s) (F0 m 487 ls []) := by
  obtain ⟨C0, hK, hL⟩ := id hC
  obtain ⟨hx, hb, hr, hml, hown, hts0, hX, hbl, hlocks, hgv⟩ := id C0
  have hts : ∀ w ∈ wsL_law, w.before #[Value.ref b] s = true := fun w h => hts0 w (wsL_law_in w h)
  have hown : s.vm.findClass RL = some m.cls := hown
  have hbA : ¬ (fun a : Nat => s.heap.size ≤ a) b := Nat.not_le.mpr hbl
  obtain ⟨sh, sp, ld, nm, tx, ds, ct, kg, ks, sg, lq, T, K, Ld, NT, NK, hR, hP, hD, hS⟩ := hI
  have hl : lv_has ls 24 [(0, .ref b), (1, .ref (q 0)), (2, .ref a1), (3, .ref a2), (4, .long co), (6, .int (nI turn)), (7, .int vv), (8, .int ww), (15, .int (nI 1)), (10, .int (nI p0)), (11, .int (nI x0)), (12, .int (nI (p0 * 4 + x0))), (13, .int (nI k)), (14, .int (nI t))] := hl
  refine lv_aload_n hx hb dL_law_487 rfl (lv_at hl 1 rfl) ?_
  refine lv_iload hx hb dL_law_488 (lv_at hl 9 rfl) ?_
  refine lv_iload hx hb dL_law_490 (lv_at hl 13 rfl) ?_
  refine lv_iload hx hb dL_law_492 (lv_at hl 12 rfl) ?_
  refine k_callVW (wr := [(a1, .inl (cI, 32, .inl sg)), (a2, .inl (cI, 32, .inl lq))]) (As := [.int (nI p0), .int (nI t), .int (nI k)]) (rest := []) ⟨hx, hb, hml, hown, hts⟩ (c_X0_name l D cI q sh sp ld nm tx ds ct co kg ks p0 hp t k hk1 hk5 htk (k_D_tt (hD.sub [0, 1, 2, 3, 4, 5, 6, 7, 8] (by decide) rfl))) (cwV 3 hts gL_law_X0_name rfl rfl rfl (by decide +kernel) ⟨Nat.le_of_ble_eq_true rfl, Nat.le_of_ble_eq_true rfl⟩) k_B_bl (k_B_of (hP.sub [0, 1, 2, 3, 4, 5, 6, 7, 8] rfl) hK) (va_recv hK hP (ci := 0) (q0 := 0) rfl rfl) rfl hl.1 rfl (Nat.le_of_ble_eq_true rfl) dL_law_494 ⟨Nat.le_of_ble_eq_true rfl, Nat.le_of_ble_eq_true rfl⟩ hP hD hS [9, 10] [0, 1, 2, 3, 4, 5, 6, 7, 8] rfl rfl (fun _ => rfl) (fun u_494 H locs hu_494 hP hD hS hsz hkp => ?_)
  have hP : va_P D vwCl (wl cI q a1 a2 sh sp ld (upd nm p0 (nI (32768 * k + t))) tx ds ct co (nI 0) ks sg lq) H := hP.sub [2, 3, 4, 5, 6, 7, 8, 9, 10, 0, 1] rfl
  have hD : va_D (fun a : Nat => s.heap.size ≤ a) (wl cI q a1 a2 sh sp ld (upd nm p0 (nI (32768 * k + t))) tx ds ct co (nI 0) ks sg lq) := hD.sub [2, 3, 4, 5, 6, 7, 8, 9, 10, 0, 1] (by decide) rfl
  have hR := hR.name (g := p0) hk5 htk
  refine lv_aload_n hx hb dL_law_497 rfl (lv_at hl 1 rfl) ?_
  refine lv_iload hx hb dL_law_498 (lv_at hl 9 rfl) ?_
  refine lv_iload hx hb dL_law_500 (lv_at hl 13 rfl) ?_
  refine lv_iload hx hb dL_law_502 (lv_at hl 12 rfl) ?_
  refine k_callVW (wr := [(a1, .inl (cI, 32, .inl sg)), (a2, .inl (cI, 32, .inl lq))]) (As := [.int (nI p0), .int (nI t), .int (nI k)]) (rest := []) ⟨hx, hb, hml, hown, hts⟩ (c_X0_walk l D cI q sh sp ld (upd nm p0 (nI (32768 * k + t))) tx ds ct co (nI 0) ks p0 hp t k hk1 hk5 htk _ _ hR.hG _ hR.hLd hR.1 _ _ hR.2.2.1 hR.2.2.2.2 (k_D_tt (hD.sub [0, 1, 2, 3, 4, 5, 6, 7, 8] (by decide) rfl))) (cwV 3 hts gL_law_X0_walk rfl rfl rfl (by decide +kernel) ⟨Nat.le_of_ble_eq_true rfl, Nat.le_of_ble_eq_true rfl⟩) k_B_bl (k_B_of (hP.sub [0, 1, 2, 3, 4, 5, 6, 7, 8] rfl) hK) (va_recv hK hP (ci := 0) (q0 := 0) rfl rfl) rfl hl.1 rfl (Nat.le_of_ble_eq_true rfl) dL_law_504 ⟨Nat.le_of_ble_eq_true rfl, Nat.le_of_ble_eq_true rfl⟩ hP hD hS [9, 10] [0, 1, 2, 3, 4, 5, 6, 7, 8] rfl rfl (fun _ => rfl) (fun u_504 H locs hu_504 hP hD hS hsz hkp => ?_)
  have hP : va_P D vwCl (wl cI q a1 a2 sh sp ld (upd nm p0 (nI (32768 * k + t))) tx ds ct co u_504.1 u_504.2 sg lq) H := hP.sub [2, 3, 4, 5, 6, 7, 8, 9, 10, 0, 1] rfl
  have hD : va_D (fun a : Nat => s.heap.size ≤ a) (wl cI q a1 a2 sh sp ld (upd nm p0 (nI (32768 * k + t))) tx ds ct co u_504.1 u_504.2 sg lq) := hD.sub [2, 3, 4, 5, 6, 7, 8, 9, 10, 0, 1] (by decide) rfl
  have hR := hR.walk hu_504
  refine lv_as (y := nI 0) (walk_here) ?_
  refine n_if_ne (tgt := 514) hx hb dL_law_507 (by decide) (by decide) (fun c_507 => absurd c_507 (by decide)) (fun _ => ?_)
  refine lv_iconst (v := nI 1) hx hb dL_law_510 (by decide) ?_
  refine lv_goto (tgt := 515) hx hb dL_law_511 (by decide) ?_
  refine lv_istore (lv' := [(15, .int (nI 1)), (0, .ref b), (1, .ref (q 0)), (2, .ref a1), (3, .ref a2), (4, .long co), (6, .int (nI turn)), (7, .int vv), (8, .int ww), (10, .int (nI p0)), (11, .int (nI x0)), (12, .int (nI (p0 * 4 + x0))), (13, .int (nI k)), (14, .int (nI t))]) hx hb dL_law_515 hl (by decide) rfl (fun ls hl => ?_)
  refine lv_goto (tgt := 700) hx hb dL_law_517 (by decide) ?_
  exact hk _ _ _ _ (lqI_mk hR hP hD hS) (lv_sub hl [1, 2, 3, 4, 5, 6, 7, 8, 0] rfl)
set_option maxHeartbeats 4000000 in
set_option maxRecDepth 100000 in
theorem lb_cut {p : Program} {l : Launch} {e : Env} {s : State} {m : MethodId} {below : List Frame} {meth : Method} {c : Code} {b L : Nat} {xs : Nat → Int32} {D : va_G} {cI : ClassId} {q : Nat → Nat} {a1 a2 : Nat} {co : Int64} {H : Heap} {locs : List Loc} {ls : Array Slot} {turn : Nat} {vv ww : Int32} (hC : lqC p s m meth c b L xs D cI) {p0 x0 k t : Nat} (hp : p0 < 8) (hx0 : x0 < 4) (hk1 : 1 ≤ k) (hk5 : k ≤ 5) (htk : t < 8 ^ k) (hI : lqI D cI q a1 a2 co s H locs) (hl : lv_has ls 24 (lqN b q a1 a2 co turn vv ww p0 x0 k t)) (hk : ∀ (H : Heap) (locs : List Loc) (ls : Array Slot) (co : Int64), lqI D cI q a1 a2 co s H locs → lv_has ls 24 (lqM b q a1 a2 co turn vv ww) → W p l e room_1 s m #[Value.ref b] below meth c H locs 96 1076 (lw_Z below #[Value.ref b] s) (F0 m 700 ls [])) : W p l e room_1 s m #[Value.ref b] below meth c H locs 96 1076 (lw_Z below #[Value.ref b] s) (F0 m 527 ls []) := by
  obtain ⟨C0, hK, hL⟩ := id hC
  obtain ⟨hx, hb, hr, hml, hown, hts0, hX, hbl, hlocks, hgv⟩ := id C0
  have hts : ∀ w ∈ wsL_law, w.before #[Value.ref b] s = true := fun w h => hts0 w (wsL_law_in w h)
  have hown : s.vm.findClass RL = some m.cls := hown
  have hbA : ¬ (fun a : Nat => s.heap.size ≤ a) b := Nat.not_le.mpr hbl
  obtain ⟨sh, sp, ld, nm, tx, ds, ct, kg, ks, sg, lq, T, K, Ld, NT, NK, hR, hP, hD, hS⟩ := hI
  have hl : lv_has ls 24 [(0, .ref b), (1, .ref (q 0)), (2, .ref a1), (3, .ref a2), (4, .long co), (6, .int (nI turn)), (7, .int vv), (8, .int ww), (15, .int (nI 1)), (10, .int (nI p0)), (11, .int (nI x0)), (12, .int (nI (p0 * 4 + x0))), (13, .int (nI k)), (14, .int (nI t))] := hl
  refine lv_aload_n hx hb dL_law_527 rfl (lv_at hl 1 rfl) ?_
  refine lv_iload hx hb dL_law_528 (lv_at hl 13 rfl) ?_
  refine lv_iload hx hb dL_law_530 (lv_at hl 12 rfl) ?_
  refine k_callVi (As := [.int (nI t), .int (nI k)]) (rest := []) ⟨hx, hb, hml, hown, hts⟩ (c_X0_textWidth l D cI q sh sp ld nm tx ds ct co kg ks t k hk1 hk5 htk) (cwV 2 hts gL_law_X0_textWidth rfl rfl rfl (by decide +kernel) ⟨Nat.le_of_ble_eq_true rfl, Nat.le_of_ble_eq_true rfl⟩) k_B_bl (k_B_of (hP.sub [0, 1, 2, 3, 4, 5, 6, 7, 8] rfl) hK) (va_recv hK hP (ci := 0) (q0 := 0) rfl rfl) rfl hl.1 rfl (Nat.le_of_ble_eq_true rfl) dL_law_532 ⟨Nat.le_of_ble_eq_true rfl, Nat.le_of_ble_eq_true rfl⟩ ?_
  refine lv_istore (lv' := [(16, .int (pwC (wdS sh) sp t k)), (0, .ref b), (1, .ref (q 0)), (2, .ref a1), (3, .ref a2), (4, .long co), (6, .int (nI turn)), (7, .int vv), (8, .int ww), (15, .int (nI 1)), (10, .int (nI p0)), (11, .int (nI x0)), (12, .int (nI (p0 * 4 + x0))), (13, .int (nI k)), (14, .int (nI t))]) hx hb dL_law_535 hl (by decide) rfl (fun ls hl => ?_)
  refine lv_iload hx hb dL_law_537 (lv_at hl 0 rfl) ?_
  refine lv_bipush (v := nI 30) hx hb dL_law_539 (by decide) ?_
  refine lv_icmp_gt (tgt := 628) hx hb dL_law_541 (by decide) (fun c_541 => ?_) (fun c_541 => ?_)
  · refine lv_goto (tgt := 700) hx hb dL_law_628 (by decide) ?_
    exact hk _ _ _ _ (lqI_mk hR hP hD hS) (lv_sub hl [1, 2, 3, 4, 5, 6, 7, 8, 9] rfl)
  · refine lv_aload_n hx hb dL_law_544 rfl (lv_at hl 2 rfl) ?_
    refine lv_iload hx hb dL_law_545 (lv_at hl 10 rfl) ?_
    refine lv_iload hx hb dL_law_547 (lv_at hl 11 rfl) ?_
    refine lv_iload hx hb dL_law_549 (lv_at hl 14 rfl) ?_
    refine lv_iload hx hb dL_law_551 (lv_at hl 13 rfl) ?_
    refine lv_iload hx hb dL_law_553 (lv_at hl 7 rfl) ?_
    refine lv_iconst (v := nI 4) hx hb dL_law_555 (by decide) ?_
    refine lv_ishr hx hb dL_law_556 ?_
    refine lv_bipush (v := nI 10) hx hb dL_law_557 (by decide) ?_
    refine k_callSi (As := [.int (vv >>> ((nI 4) &&& 31)), .int (nI 10)]) (rest := [.int (nI k), .int (nI t), .int (nI x0), .int (nI p0), .ref (q 0)]) ⟨hx, hb, hml, hown, hts⟩ (c_L_low l (vv >>> ((nI 4) &&& 31)) 10 (by decide) (by decide)) (va_cwS 2 hts gL_law_L_low rfl rfl rfl (by decide +kernel) ⟨Nat.le_of_ble_eq_true rfl, Nat.le_of_ble_eq_true rfl⟩) k_bl_tt (fun _ _ _ => trivial) rfl hl.1 rfl (Nat.le_of_ble_eq_true rfl) dL_law_559 ⟨Nat.le_of_ble_eq_true rfl, Nat.le_of_ble_eq_true rfl⟩ ?_
    obtain ⟨dd, e_dd⟩ : ∃ z, lowN (vv >>> ((nI 4) &&& 31)) 10 = z := ⟨_, rfl⟩
    have h_dd : dd < 10 := by rw [← e_dd]; exact lowN_lt _ (by decide)
    refine lv_as (y := nI dd) (congrArg nI e_dd) ?_
    refine k_callVW (wr := [(a1, .inl (cI, 32, .inl sg)), (a2, .inl (cI, 32, .inl lq))]) (As := [.int (nI p0), .int (nI x0), .int (nI t), .int (nI k), .int (nI dd)]) (rest := []) ⟨hx, hb, hml, hown, hts⟩ (c_X0_cut l D cI q sh sp ld nm tx ds ct co kg ks p0 x0 hp hx0 t k hk1 hk5 htk dd h_dd (pl_m1 (fa_of_nlt c_541)) (k_D_tt (hD.sub [0, 1, 2, 3, 4, 5, 6, 7, 8] (by decide) rfl))) (cwV 5 hts gL_law_X0_cut rfl rfl rfl (by decide +kernel) ⟨Nat.le_of_ble_eq_true rfl, Nat.le_of_ble_eq_true rfl⟩) k_B_bl (k_B_of (hP.sub [0, 1, 2, 3, 4, 5, 6, 7, 8] rfl) hK) (va_recv hK hP (ci := 0) (q0 := 0) rfl rfl) rfl hl.1 rfl (Nat.le_of_ble_eq_true rfl) dL_law_562 ⟨Nat.le_of_ble_eq_true rfl, Nat.le_of_ble_eq_true rfl⟩ hP hD hS [9, 10] [0, 1, 2, 3, 4, 5, 6, 7, 8] rfl rfl (fun _ => rfl) (fun u_562 H locs hu_562 hP hD hS hsz hkp => ?_)
    have hP : va_P D vwCl (wl cI q a1 a2 sh sp ld nm (upd tx (p0 * 4 + x0) (nI (32768 * k + t))) (upd ds (p0 * 4 + x0) (nI dd)) (engF sh ct (p0 * 4 + x0) t k) (co + (plF (pwC (wdS sh) sp t k)).toInt64) (nI 0) ks sg lq) H := hP.sub [2, 3, 4, 5, 6, 7, 8, 9, 10, 0, 1] rfl
    have hD : va_D (fun a : Nat => s.heap.size ≤ a) (wl cI q a1 a2 sh sp ld nm (upd tx (p0 * 4 + x0) (nI (32768 * k + t))) (upd ds (p0 * 4 + x0) (nI dd)) (engF sh ct (p0 * 4 + x0) t k) (co + (plF (pwC (wdS sh) sp t k)).toInt64) (nI 0) ks sg lq) := hD.sub [2, 3, 4, 5, 6, 7, 8, 9, 10, 0, 1] (by decide) rfl
    have hR := hR.cut (g := p0 * 4 + x0) (d := nI dd) (by omega) hk1 hk5 htk
    refine lv_istore (lv' := [(17, .int (plF (pwC (wdS sh) sp t k))), (16, .int (pwC (wdS sh) sp t k)), (0, .ref b), (1, .ref (q 0)), (2, .ref a1), (3, .ref a2), (4, .long co), (6, .int (nI turn)), (7, .int vv), (8, .int ww), (15, .int (nI 1)), (10, .int (nI p0)), (11, .int (nI x0)), (12, .int (nI (p0 * 4 + x0))), (13, .int (nI k)), (14, .int (nI t))]) hx hb dL_law_565 hl (by decide) rfl (fun ls hl => ?_)
    refine lv_lload hx hb dL_law_567 (lv_at hl 6 rfl) ?_
    refine lv_iload hx hb dL_law_569 (lv_at hl 0 rfl) ?_
    refine lv_i2l (v := (plF (pwC (wdS sh) sp t k)).toInt64) hx hb dL_law_571 rfl ?_
    refine lv_ladd hx hb dL_law_572 ?_
    refine lv_lstore (lv' := [(4, .long (co + ((plF (pwC (wdS sh) sp t k)).toInt64))), (17, .int (plF (pwC (wdS sh) sp t k))), (16, .int (pwC (wdS sh) sp t k)), (0, .ref b), (1, .ref (q 0)), (2, .ref a1), (3, .ref a2), (6, .int (nI turn)), (7, .int vv), (8, .int ww), (15, .int (nI 1)), (10, .int (nI p0)), (11, .int (nI x0)), (12, .int (nI (p0 * 4 + x0))), (13, .int (nI k)), (14, .int (nI t))]) hx hb dL_law_573 hl (by decide) rfl (fun ls hl => ?_)
    refine lv_aload_n hx hb dL_law_575 rfl (lv_at hl 5 rfl) ?_
    refine lv_iload hx hb dL_law_576 (lv_at hl 13 rfl) ?_
    refine lv_iconst (v := nI 1) hx hb dL_law_578 (by decide) ?_
    refine n_iast hx hb hK hP hD hS 9 0 rfl rfl (k := (p0 * 4 + x0)) (by omega) (Nat.le_of_ble_eq_true rfl) dL_law_579 (fun H locs hP hD hS => ?_)
    have hP : va_P D vwCl (wl cI q a1 a2 sh sp ld nm (upd tx (p0 * 4 + x0) (nI (32768 * k + t))) (upd ds (p0 * 4 + x0) (nI dd)) (engF sh ct (p0 * 4 + x0) t k) (co + (plF (pwC (wdS sh) sp t k)).toInt64) (nI 0) ks (upd sg (p0 * 4 + x0) (nI 1)) lq) H := hP
    have hD : va_D (fun a : Nat => s.heap.size ≤ a) (wl cI q a1 a2 sh sp ld nm (upd tx (p0 * 4 + x0) (nI (32768 * k + t))) (upd ds (p0 * 4 + x0) (nI dd)) (engF sh ct (p0 * 4 + x0) t k) (co + (plF (pwC (wdS sh) sp t k)).toInt64) (nI 0) ks (upd sg (p0 * 4 + x0) (nI 1)) lq) := hD
    refine lv_iload hx hb dL_law_580 (lv_at hl 1 rfl) ?_
    refine lv_iload hx hb dL_law_582 (lv_at hl 2 rfl) ?_
    refine lv_bipush (v := nI 10) hx hb dL_law_584 (by decide) ?_
    refine lv_icmp_gt (tgt := 593) hx hb dL_law_586 (by decide) (fun c_586 => ?_) (fun c_586 => ?_)
    · refine lv_iload hx hb dL_law_593 (lv_at hl 2 rfl) ?_
      refine lv_bipush (v := nI 20) hx hb dL_law_595 (by decide) ?_
      refine lv_icmp_gt (tgt := 605) hx hb dL_law_597 (by decide) (fun c_597 => ?_) (fun c_597 => ?_)
      · refine lv_bipush (v := nI 10) hx hb dL_law_605 (by decide) ?_
        refine lv_as (y := plF (pwC (wdS sh) sp t k)) ((by rw [plF, if_pos c_586, if_pos c_597, if_neg c_541] : plF (pwC (wdS sh) sp t k) = nI 10).symm) ?_
        refine n_icmp_ne_mm (tgt := 625) hx hb dL_law_607 (by decide) ?_
        refine lv_aload_n hx hb dL_law_610 rfl (lv_at hl 4 rfl) ?_
        refine lv_iload hx hb dL_law_611 (lv_at hl 11 rfl) ?_
        refine lv_iload hx hb dL_law_613 (lv_at hl 12 rfl) ?_
        refine k_callVi (As := [.int (nI p0), .int (nI x0)]) (rest := []) ⟨hx, hb, hml, hown, hts⟩ (c_X0_isOld l D cI q sh sp ld nm (upd tx (p0 * 4 + x0) (nI (32768 * k + t))) (upd ds (p0 * 4 + x0) (nI dd)) (engF sh ct (p0 * 4 + x0) t k) (co + (plF (pwC (wdS sh) sp t k)).toInt64) (nI 0) ks p0 x0 hp hx0 _ _ hR.hG) (cwV 2 hts gL_law_X0_isOld rfl rfl rfl (by decide +kernel) ⟨Nat.le_of_ble_eq_true rfl, Nat.le_of_ble_eq_true rfl⟩) k_B_bl (k_B_of (hP.sub [0, 1, 2, 3, 4, 5, 6, 7, 8] rfl) hK) (va_recv hK hP (ci := 0) (q0 := 0) rfl rfl) rfl hl.1 rfl (Nat.le_of_ble_eq_true rfl) dL_law_615 ⟨Nat.le_of_ble_eq_true rfl, Nat.le_of_ble_eq_true rfl⟩ ?_
        refine lv_as (y := nI 0) (old_cut) ?_
        refine n_if_ne (tgt := 625) hx hb dL_law_618 (by decide) (by decide) (fun c_618 => absurd c_618 (by decide)) (fun _ => ?_)
        refine lv_iconst (v := nI 1) hx hb dL_law_621 (by decide) ?_
        refine lv_goto (tgt := 626) hx hb dL_law_622 (by decide) ?_
        refine lv_istore (lv' := [(15, .int (nI 1)), (4, .long (co + ((plF (pwC (wdS sh) sp t k)).toInt64))), (17, .int (plF (pwC (wdS sh) sp t k))), (16, .int (pwC (wdS sh) sp t k)), (0, .ref b), (1, .ref (q 0)), (2, .ref a1), (3, .ref a2), (6, .int (nI turn)), (7, .int vv), (8, .int ww), (10, .int (nI p0)), (11, .int (nI x0)), (12, .int (nI (p0 * 4 + x0))), (13, .int (nI k)), (14, .int (nI t))]) hx hb dL_law_626 hl (by decide) rfl (fun ls hl => ?_)
        refine lv_goto (tgt := 700) hx hb dL_law_628 (by decide) ?_
        exact hk _ _ _ _ (lqI_mk hR hP hD hS) (lv_sub hl [4, 5, 6, 7, 1, 8, 9, 10, 0] rfl)
      · refine lv_bipush (v := nI 7) hx hb dL_law_600 (by decide) ?_
        refine lv_goto (tgt := 607) hx hb dL_law_602 (by decide) ?_
        refine lv_as (y := plF (pwC (wdS sh) sp t k)) ((by rw [plF, if_pos c_586, if_neg c_597] : plF (pwC (wdS sh) sp t k) = nI 7).symm) ?_
        refine n_icmp_ne_mm (tgt := 625) hx hb dL_law_607 (by decide) ?_
        refine lv_aload_n hx hb dL_law_610 rfl (lv_at hl 4 rfl) ?_
        refine lv_iload hx hb dL_law_611 (lv_at hl 11 rfl) ?_
        refine lv_iload hx hb dL_law_613 (lv_at hl 12 rfl) ?_
        refine k_callVi (As := [.int (nI p0), .int (nI x0)]) (rest := []) ⟨hx, hb, hml, hown, hts⟩ (c_X0_isOld l D cI q sh sp ld nm (upd tx (p0 * 4 + x0) (nI (32768 * k + t))) (upd ds (p0 * 4 + x0) (nI dd)) (engF sh ct (p0 * 4 + x0) t k) (co + (plF (pwC (wdS sh) sp t k)).toInt64) (nI 0) ks p0 x0 hp hx0 _ _ hR.hG) (cwV 2 hts gL_law_X0_isOld rfl rfl rfl (by decide +kernel) ⟨Nat.le_of_ble_eq_true rfl, Nat.le_of_ble_eq_true rfl⟩) k_B_bl (k_B_of (hP.sub [0, 1, 2, 3, 4, 5, 6, 7, 8] rfl) hK) (va_recv hK hP (ci := 0) (q0 := 0) rfl rfl) rfl hl.1 rfl (Nat.le_of_ble_eq_true rfl) dL_law_615 ⟨Nat.le_of_ble_eq_true rfl, Nat.le_of_ble_eq_true rfl⟩ ?_
        refine lv_as (y := nI 0) (old_cut) ?_
        refine n_if_ne (tgt := 625) hx hb dL_law_618 (by decide) (by decide) (fun c_618 => absurd c_618 (by decide)) (fun _ => ?_)
        refine lv_iconst (v := nI 1) hx hb dL_law_621 (by decide) ?_
        refine lv_goto (tgt := 626) hx hb dL_law_622 (by decide) ?_
        refine lv_istore (lv' := [(15, .int (nI 1)), (4, .long (co + ((plF (pwC (wdS sh) sp t k)).toInt64))), (17, .int (plF (pwC (wdS sh) sp t k))), (16, .int (pwC (wdS sh) sp t k)), (0, .ref b), (1, .ref (q 0)), (2, .ref a1), (3, .ref a2), (6, .int (nI turn)), (7, .int vv), (8, .int ww), (10, .int (nI p0)), (11, .int (nI x0)), (12, .int (nI (p0 * 4 + x0))), (13, .int (nI k)), (14, .int (nI t))]) hx hb dL_law_626 hl (by decide) rfl (fun ls hl => ?_)
        refine lv_goto (tgt := 700) hx hb dL_law_628 (by decide) ?_
        exact hk _ _ _ _ (lqI_mk hR hP hD hS) (lv_sub hl [4, 5, 6, 7, 1, 8, 9, 10, 0] rfl)
    · refine lv_iconst (v := nI 4) hx hb dL_law_589 (by decide) ?_
      refine lv_goto (tgt := 607) hx hb dL_law_590 (by decide) ?_
      refine lv_as (y := plF (pwC (wdS sh) sp t k)) ((by rw [plF, if_neg c_586] : plF (pwC (wdS sh) sp t k) = nI 4).symm) ?_
      refine n_icmp_ne_mm (tgt := 625) hx hb dL_law_607 (by decide) ?_
      refine lv_aload_n hx hb dL_law_610 rfl (lv_at hl 4 rfl) ?_
      refine lv_iload hx hb dL_law_611 (lv_at hl 11 rfl) ?_
      refine lv_iload hx hb dL_law_613 (lv_at hl 12 rfl) ?_
      refine k_callVi (As := [.int (nI p0), .int (nI x0)]) (rest := []) ⟨hx, hb, hml, hown, hts⟩ (c_X0_isOld l D cI q sh sp ld nm (upd tx (p0 * 4 + x0) (nI (32768 * k + t))) (upd ds (p0 * 4 + x0) (nI dd)) (engF sh ct (p0 * 4 + x0) t k) (co + (plF (pwC (wdS sh) sp t k)).toInt64) (nI 0) ks p0 x0 hp hx0 _ _ hR.hG) (cwV 2 hts gL_law_X0_isOld rfl rfl rfl (by decide +kernel) ⟨Nat.le_of_ble_eq_true rfl, Nat.le_of_ble_eq_true rfl⟩) k_B_bl (k_B_of (hP.sub [0, 1, 2, 3, 4, 5, 6, 7, 8] rfl) hK) (va_recv hK hP (ci := 0) (q0 := 0) rfl rfl) rfl hl.1 rfl (Nat.le_of_ble_eq_true rfl) dL_law_615 ⟨Nat.le_of_ble_eq_true rfl, Nat.le_of_ble_eq_true rfl⟩ ?_
      refine lv_as (y := nI 0) (old_cut) ?_
      refine n_if_ne (tgt := 625) hx hb dL_law_618 (by decide) (by decide) (fun c_618 => absurd c_618 (by decide)) (fun _ => ?_)
      refine lv_iconst (v := nI 1) hx hb dL_law_621 (by decide) ?_
      refine lv_goto (tgt := 626) hx hb dL_law_622 (by decide) ?_
      refine lv_istore (lv' := [(15, .int (nI 1)), (4, .long (co + ((plF (pwC (wdS sh) sp t k)).toInt64))), (17, .int (plF (pwC (wdS sh) sp t k))), (16, .int (pwC (wdS sh) sp t k)), (0, .ref b), (1, .ref (q 0)), (2, .ref a1), (3, .ref a2), (6, .int (nI turn)), (7, .int vv), (8, .int ww), (10, .int (nI p0)), (11, .int (nI x0)), (12, .int (nI (p0 * 4 + x0))), (13, .int (nI k)), (14, .int (nI t))]) hx hb dL_law_626 hl (by decide) rfl (fun ls hl => ?_)
      refine lv_goto (tgt := 700) hx hb dL_law_628 (by decide) ?_
      exact hk _ _ _ _ (lqI_mk hR hP hD hS) (lv_sub hl [4, 5, 6, 7, 1, 8, 9, 10, 0] rfl)
set_option maxHeartbeats 4000000 in
set_option maxRecDepth 100000 in
theorem lb_remove {p : Program} {l : Launch} {e : Env} {s : State} {m : MethodId} {below : List Frame} {meth : Method} {c : Code} {b L : Nat} {xs : Nat → Int32} {D : va_G} {cI : ClassId} {q : Nat → Nat} {a1 a2 : Nat} {co : Int64} {H : Heap} {locs : List Loc} {ls : Array Slot} {turn : Nat} {vv ww : Int32} (hC : lqC p s m meth c b L xs D cI) {p0 x0 k t : Nat} (hp : p0 < 8) (hx0 : x0 < 4) (hk1 : 1 ≤ k) (hk5 : k ≤ 5) (htk : t < 8 ^ k) (hI : lqI D cI q a1 a2 co s H locs) (hl : lv_has ls 24 (lqN b q a1 a2 co turn vv ww p0 x0 k t)) (hk : ∀ (H : Heap) (locs : List Loc) (ls : Array Slot) (co : Int64), lqI D cI q a1 a2 co s H locs → lv_has ls 24 (lqM b q a1 a2 co turn vv ww) → W p l e room_1 s m #[Value.ref b] below meth c H locs 96 1076 (lw_Z below #[Value.ref b] s) (F0 m 700 ls [])) : W p l e room_1 s m #[Value.ref b] below meth c H locs 96 1076 (lw_Z below #[Value.ref b] s) (F0 m 638 ls []) := by
  obtain ⟨C0, hK, hL⟩ := id hC
  obtain ⟨hx, hb, hr, hml, hown, hts0, hX, hbl, hlocks, hgv⟩ := id C0
  have hts : ∀ w ∈ wsL_law, w.before #[Value.ref b] s = true := fun w h => hts0 w (wsL_law_in w h)
  have hown : s.vm.findClass RL = some m.cls := hown
  have hbA : ¬ (fun a : Nat => s.heap.size ≤ a) b := Nat.not_le.mpr hbl
  obtain ⟨sh, sp, ld, nm, tx, ds, ct, kg, ks, sg, lq, T, K, Ld, NT, NK, hR, hP, hD, hS⟩ := hI
  have hl : lv_has ls 24 [(0, .ref b), (1, .ref (q 0)), (2, .ref a1), (3, .ref a2), (4, .long co), (6, .int (nI turn)), (7, .int vv), (8, .int ww), (15, .int (nI 1)), (10, .int (nI p0)), (11, .int (nI x0)), (12, .int (nI (p0 * 4 + x0))), (13, .int (nI k)), (14, .int (nI t))] := hl
  by_cases hz : K (p0 * 4 + x0) = 0
  · refine lv_aload_n hx hb dL_law_638 rfl (lv_at hl 1 rfl) ?_
    refine lv_iload hx hb dL_law_639 (lv_at hl 9 rfl) ?_
    refine lv_iload hx hb dL_law_641 (lv_at hl 10 rfl) ?_
    refine k_callVW (wr := [(a1, .inl (cI, 32, .inl sg)), (a2, .inl (cI, 32, .inl lq))]) (As := [.int (nI p0), .int (nI x0)]) (rest := []) ⟨hx, hb, hml, hown, hts⟩ (c_X0_remove l D cI q sh sp ld nm tx ds ct co kg ks p0 x0 hp hx0 (k_D_tt (hD.sub [0, 1, 2, 3, 4, 5, 6, 7, 8] (by decide) rfl))) (cwV 2 hts gL_law_X0_remove rfl rfl rfl (by decide +kernel) ⟨Nat.le_of_ble_eq_true rfl, Nat.le_of_ble_eq_true rfl⟩) k_B_bl (k_B_of (hP.sub [0, 1, 2, 3, 4, 5, 6, 7, 8] rfl) hK) (va_recv hK hP (ci := 0) (q0 := 0) rfl rfl) rfl hl.1 rfl (Nat.le_of_ble_eq_true rfl) dL_law_643 ⟨Nat.le_of_ble_eq_true rfl, Nat.le_of_ble_eq_true rfl⟩ hP hD hS [9, 10] [0, 1, 2, 3, 4, 5, 6, 7, 8] rfl rfl (fun _ => rfl) (fun u_643 H locs hu_643 hP hD hS hsz hkp => ?_)
    have hP : va_P D vwCl (wl cI q a1 a2 sh sp ld nm (upd tx (p0 * 4 + x0) (nI 0)) ds ct co (nI 0) ks sg lq) H := hP.sub [2, 3, 4, 5, 6, 7, 8, 9, 10, 0, 1] rfl
    have hD : va_D (fun a : Nat => s.heap.size ≤ a) (wl cI q a1 a2 sh sp ld nm (upd tx (p0 * 4 + x0) (nI 0)) ds ct co (nI 0) ks sg lq) := hD.sub [2, 3, 4, 5, 6, 7, 8, 9, 10, 0, 1] (by decide) rfl
    have hR1 := hR.remove (g := p0 * 4 + x0)
    refine lv_as (y := nI 0) ((hR.had (by omega)).trans (by rw [if_pos hz])) ?_
    refine lv_aload_n hx hb dL_law_646 rfl (lv_at hl 2 rfl) ?_
    refine lv_iload hx hb dL_law_647 (lv_at hl 11 rfl) ?_
    refine n_iald hx hb hK hP 9 0 rfl rfl (k := (p0 * 4 + x0)) (by omega) (Nat.le_of_ble_eq_true rfl) dL_law_649 ?_
    refine lv_as (y := nI 0) ((hR.hsg (by omega)).trans (by rw [if_pos hz])) ?_
    refine lv_iconst (v := nI 1) hx hb dL_law_650 (by decide) ?_
    refine n_icmp_ne (tgt := 658) hx hb dL_law_651 (by decide) (by omega) (by omega) (fun c_651 => ?_) (fun c_651 => ?_)
    · refine lv_iconst (v := nI 0) hx hb dL_law_658 (by decide) ?_
      refine n_icmp_ne_mm (tgt := 677) hx hb dL_law_659 (by decide) ?_
      refine lv_aload_n hx hb dL_law_662 rfl (lv_at hl 1 rfl) ?_
      refine lv_iload hx hb dL_law_663 (lv_at hl 9 rfl) ?_
      refine lv_iload hx hb dL_law_665 (lv_at hl 10 rfl) ?_
      refine k_callVi (As := [.int (nI p0), .int (nI x0)]) (rest := []) ⟨hx, hb, hml, hown, hts⟩ (c_X0_isOld l D cI q sh sp ld nm (upd tx (p0 * 4 + x0) (nI 0)) ds ct co (nI 0) ks p0 x0 hp hx0 _ _ hR1.hG) (cwV 2 hts gL_law_X0_isOld rfl rfl rfl (by decide +kernel) ⟨Nat.le_of_ble_eq_true rfl, Nat.le_of_ble_eq_true rfl⟩) k_B_bl (k_B_of (hP.sub [0, 1, 2, 3, 4, 5, 6, 7, 8] rfl) hK) (va_recv hK hP (ci := 0) (q0 := 0) rfl rfl) rfl hl.1 rfl (Nat.le_of_ble_eq_true rfl) dL_law_667 ⟨Nat.le_of_ble_eq_true rfl, Nat.le_of_ble_eq_true rfl⟩ ?_
      refine lv_as (y := nI 0) (old_rm) ?_
      refine n_if_ne (tgt := 677) hx hb dL_law_670 (by decide) (by decide) (fun c_670 => absurd c_670 (by decide)) (fun _ => ?_)
      refine lv_iconst (v := nI 1) hx hb dL_law_673 (by decide) ?_
      refine lv_goto (tgt := 678) hx hb dL_law_674 (by decide) ?_
      refine lv_istore (lv' := [(15, .int (nI 1)), (0, .ref b), (1, .ref (q 0)), (2, .ref a1), (3, .ref a2), (4, .long co), (6, .int (nI turn)), (7, .int vv), (8, .int ww), (10, .int (nI p0)), (11, .int (nI x0)), (12, .int (nI (p0 * 4 + x0))), (13, .int (nI k)), (14, .int (nI t))]) hx hb dL_law_678 hl (by decide) rfl (fun ls hl => ?_)
      refine lv_aload_n hx hb dL_law_680 rfl (lv_at hl 3 rfl) ?_
      refine lv_iload hx hb dL_law_681 (lv_at hl 11 rfl) ?_
      refine lv_iconst (v := nI 0) hx hb dL_law_683 (by decide) ?_
      refine n_iast hx hb hK hP hD hS 9 0 rfl rfl (k := (p0 * 4 + x0)) (by omega) (Nat.le_of_ble_eq_true rfl) dL_law_684 (fun H locs hP hD hS => ?_)
      have hP : va_P D vwCl (wl cI q a1 a2 sh sp ld nm (upd tx (p0 * 4 + x0) (nI 0)) ds ct co (nI 0) ks (upd sg (p0 * 4 + x0) (nI 0)) lq) H := hP
      have hD : va_D (fun a : Nat => s.heap.size ≤ a) (wl cI q a1 a2 sh sp ld nm (upd tx (p0 * 4 + x0) (nI 0)) ds ct co (nI 0) ks (upd sg (p0 * 4 + x0) (nI 0)) lq) := hD
      refine lv_goto (tgt := 700) hx hb dL_law_685 (by decide) ?_
      exact hk _ _ _ _ (lqI_mk hR1 hP hD hS) (lv_sub hl [1, 2, 3, 4, 5, 6, 7, 8, 0] rfl)
    · exact absurd c_651 (by decide)
  · refine lv_aload_n hx hb dL_law_638 rfl (lv_at hl 1 rfl) ?_
    refine lv_iload hx hb dL_law_639 (lv_at hl 9 rfl) ?_
    refine lv_iload hx hb dL_law_641 (lv_at hl 10 rfl) ?_
    refine k_callVW (wr := [(a1, .inl (cI, 32, .inl sg)), (a2, .inl (cI, 32, .inl lq))]) (As := [.int (nI p0), .int (nI x0)]) (rest := []) ⟨hx, hb, hml, hown, hts⟩ (c_X0_remove l D cI q sh sp ld nm tx ds ct co kg ks p0 x0 hp hx0 (k_D_tt (hD.sub [0, 1, 2, 3, 4, 5, 6, 7, 8] (by decide) rfl))) (cwV 2 hts gL_law_X0_remove rfl rfl rfl (by decide +kernel) ⟨Nat.le_of_ble_eq_true rfl, Nat.le_of_ble_eq_true rfl⟩) k_B_bl (k_B_of (hP.sub [0, 1, 2, 3, 4, 5, 6, 7, 8] rfl) hK) (va_recv hK hP (ci := 0) (q0 := 0) rfl rfl) rfl hl.1 rfl (Nat.le_of_ble_eq_true rfl) dL_law_643 ⟨Nat.le_of_ble_eq_true rfl, Nat.le_of_ble_eq_true rfl⟩ hP hD hS [9, 10] [0, 1, 2, 3, 4, 5, 6, 7, 8] rfl rfl (fun _ => rfl) (fun u_643 H locs hu_643 hP hD hS hsz hkp => ?_)
    have hP : va_P D vwCl (wl cI q a1 a2 sh sp ld nm (upd tx (p0 * 4 + x0) (nI 0)) ds ct co (nI 0) ks sg lq) H := hP.sub [2, 3, 4, 5, 6, 7, 8, 9, 10, 0, 1] rfl
    have hD : va_D (fun a : Nat => s.heap.size ≤ a) (wl cI q a1 a2 sh sp ld nm (upd tx (p0 * 4 + x0) (nI 0)) ds ct co (nI 0) ks sg lq) := hD.sub [2, 3, 4, 5, 6, 7, 8, 9, 10, 0, 1] (by decide) rfl
    have hR1 := hR.remove (g := p0 * 4 + x0)
    refine lv_as (y := nI 1) ((hR.had (by omega)).trans (by rw [if_neg hz])) ?_
    refine lv_aload_n hx hb dL_law_646 rfl (lv_at hl 2 rfl) ?_
    refine lv_iload hx hb dL_law_647 (lv_at hl 11 rfl) ?_
    refine n_iald hx hb hK hP 9 0 rfl rfl (k := (p0 * 4 + x0)) (by omega) (Nat.le_of_ble_eq_true rfl) dL_law_649 ?_
    refine lv_as (y := nI 1) ((hR.hsg (by omega)).trans (by rw [if_neg hz])) ?_
    refine lv_iconst (v := nI 1) hx hb dL_law_650 (by decide) ?_
    refine n_icmp_ne_mm (tgt := 658) hx hb dL_law_651 (by decide) ?_
    refine lv_iconst (v := nI 1) hx hb dL_law_654 (by decide) ?_
    refine lv_goto (tgt := 659) hx hb dL_law_655 (by decide) ?_
    refine n_icmp_ne_mm (tgt := 677) hx hb dL_law_659 (by decide) ?_
    refine lv_aload_n hx hb dL_law_662 rfl (lv_at hl 1 rfl) ?_
    refine lv_iload hx hb dL_law_663 (lv_at hl 9 rfl) ?_
    refine lv_iload hx hb dL_law_665 (lv_at hl 10 rfl) ?_
    refine k_callVi (As := [.int (nI p0), .int (nI x0)]) (rest := []) ⟨hx, hb, hml, hown, hts⟩ (c_X0_isOld l D cI q sh sp ld nm (upd tx (p0 * 4 + x0) (nI 0)) ds ct co (nI 0) ks p0 x0 hp hx0 _ _ hR1.hG) (cwV 2 hts gL_law_X0_isOld rfl rfl rfl (by decide +kernel) ⟨Nat.le_of_ble_eq_true rfl, Nat.le_of_ble_eq_true rfl⟩) k_B_bl (k_B_of (hP.sub [0, 1, 2, 3, 4, 5, 6, 7, 8] rfl) hK) (va_recv hK hP (ci := 0) (q0 := 0) rfl rfl) rfl hl.1 rfl (Nat.le_of_ble_eq_true rfl) dL_law_667 ⟨Nat.le_of_ble_eq_true rfl, Nat.le_of_ble_eq_true rfl⟩ ?_
    refine lv_as (y := nI 0) (old_rm) ?_
    refine n_if_ne (tgt := 677) hx hb dL_law_670 (by decide) (by decide) (fun c_670 => absurd c_670 (by decide)) (fun _ => ?_)
    refine lv_iconst (v := nI 1) hx hb dL_law_673 (by decide) ?_
    refine lv_goto (tgt := 678) hx hb dL_law_674 (by decide) ?_
    refine lv_istore (lv' := [(15, .int (nI 1)), (0, .ref b), (1, .ref (q 0)), (2, .ref a1), (3, .ref a2), (4, .long co), (6, .int (nI turn)), (7, .int vv), (8, .int ww), (10, .int (nI p0)), (11, .int (nI x0)), (12, .int (nI (p0 * 4 + x0))), (13, .int (nI k)), (14, .int (nI t))]) hx hb dL_law_678 hl (by decide) rfl (fun ls hl => ?_)
    refine lv_aload_n hx hb dL_law_680 rfl (lv_at hl 3 rfl) ?_
    refine lv_iload hx hb dL_law_681 (lv_at hl 11 rfl) ?_
    refine lv_iconst (v := nI 0) hx hb dL_law_683 (by decide) ?_
    refine n_iast hx hb hK hP hD hS 9 0 rfl rfl (k := (p0 * 4 + x0)) (by omega) (Nat.le_of_ble_eq_true rfl) dL_law_684 (fun H locs hP hD hS => ?_)
    have hP : va_P D vwCl (wl cI q a1 a2 sh sp ld nm (upd tx (p0 * 4 + x0) (nI 0)) ds ct co (nI 0) ks (upd sg (p0 * 4 + x0) (nI 0)) lq) H := hP
    have hD : va_D (fun a : Nat => s.heap.size ≤ a) (wl cI q a1 a2 sh sp ld nm (upd tx (p0 * 4 + x0) (nI 0)) ds ct co (nI 0) ks (upd sg (p0 * 4 + x0) (nI 0)) lq) := hD
    refine lv_goto (tgt := 700) hx hb dL_law_685 (by decide) ?_
    exact hk _ _ _ _ (lqI_mk hR1 hP hD hS) (lv_sub hl [1, 2, 3, 4, 5, 6, 7, 8, 0] rfl)
set_option maxHeartbeats 4000000 in
set_option maxRecDepth 100000 in
theorem lb_walk {p : Program} {l : Launch} {e : Env} {s : State} {m : MethodId} {below : List Frame} {meth : Method} {c : Code} {b L : Nat} {xs : Nat → Int32} {D : va_G} {cI : ClassId} {q : Nat → Nat} {a1 a2 : Nat} {co : Int64} {H : Heap} {locs : List Loc} {ls : Array Slot} {turn : Nat} {vv ww : Int32} (hC : lqC p s m meth c b L xs D cI) {p0 x0 k t : Nat} (hp : p0 < 8) (hx0 : x0 < 4) (hk1 : 1 ≤ k) (hk5 : k ≤ 5) (htk : t < 8 ^ k) (hI : lqI D cI q a1 a2 co s H locs) (hl : lv_has ls 24 (lqN b q a1 a2 co turn vv ww p0 x0 k t)) (hk : ∀ (H : Heap) (locs : List Loc) (ls : Array Slot) (co : Int64), lqI D cI q a1 a2 co s H locs → lv_has ls 24 (lqM b q a1 a2 co turn vv ww) → W p l e room_1 s m #[Value.ref b] below meth c H locs 96 1076 (lw_Z below #[Value.ref b] s) (F0 m 700 ls [])) : W p l e room_1 s m #[Value.ref b] below meth c H locs 96 1076 (lw_Z below #[Value.ref b] s) (F0 m 688 ls []) := by
  obtain ⟨C0, hK, hL⟩ := id hC
  obtain ⟨hx, hb, hr, hml, hown, hts0, hX, hbl, hlocks, hgv⟩ := id C0
  have hts : ∀ w ∈ wsL_law, w.before #[Value.ref b] s = true := fun w h => hts0 w (wsL_law_in w h)
  have hown : s.vm.findClass RL = some m.cls := hown
  have hbA : ¬ (fun a : Nat => s.heap.size ≤ a) b := Nat.not_le.mpr hbl
  obtain ⟨sh, sp, ld, nm, tx, ds, ct, kg, ks, sg, lq, T, K, Ld, NT, NK, hR, hP, hD, hS⟩ := hI
  have hl : lv_has ls 24 [(0, .ref b), (1, .ref (q 0)), (2, .ref a1), (3, .ref a2), (4, .long co), (6, .int (nI turn)), (7, .int vv), (8, .int ww), (15, .int (nI 1)), (10, .int (nI p0)), (11, .int (nI x0)), (12, .int (nI (p0 * 4 + x0))), (13, .int (nI k)), (14, .int (nI t))] := hl
  refine lv_aload_n hx hb dL_law_688 rfl (lv_at hl 1 rfl) ?_
  refine lv_iload hx hb dL_law_689 (lv_at hl 9 rfl) ?_
  refine lv_iload hx hb dL_law_691 (lv_at hl 13 rfl) ?_
  refine lv_iload hx hb dL_law_693 (lv_at hl 12 rfl) ?_
  refine k_callSW (wr := [(a1, .inl (cI, 32, .inl sg)), (a2, .inl (cI, 32, .inl lq))]) (As := [.ref (q 0), .int (nI p0), .int (nI t), .int (nI k)]) (rest := []) ⟨hx, hb, hml, hown, hts⟩ (c_L_isWalk l D cI q sh sp ld nm tx ds ct co kg ks p0 hp t k hk1 hk5 htk _ _ hR.hG _ hR.hLd hR.1 _ _ hR.2.2.1 hR.2.2.2.2 (k_D_tt (hD.sub [0, 1, 2, 3, 4, 5, 6, 7, 8] (by decide) rfl))) (va_cwS 4 hts gL_law_L_isWalk rfl rfl rfl (by decide +kernel) ⟨Nat.le_of_ble_eq_true rfl, Nat.le_of_ble_eq_true rfl⟩) k_B_bl (k_B_of (hP.sub [0, 1, 2, 3, 4, 5, 6, 7, 8] rfl) hK) rfl hl.1 rfl (Nat.le_of_ble_eq_true rfl) dL_law_695 ⟨Nat.le_of_ble_eq_true rfl, Nat.le_of_ble_eq_true rfl⟩ hP hD hS [9, 10] [0, 1, 2, 3, 4, 5, 6, 7, 8] rfl rfl (fun _ => rfl) (fun u_695 H locs hu_695 hP hD hS hsz hkp => ?_)
  have hP : va_P D vwCl (wl cI q a1 a2 sh sp ld nm tx ds ct co u_695.1 u_695.2 sg lq) H := hP.sub [2, 3, 4, 5, 6, 7, 8, 9, 10, 0, 1] rfl
  have hD : va_D (fun a : Nat => s.heap.size ≤ a) (wl cI q a1 a2 sh sp ld nm tx ds ct co u_695.1 u_695.2 sg lq) := hD.sub [2, 3, 4, 5, 6, 7, 8, 9, 10, 0, 1] (by decide) rfl
  have hR := hR.walk hu_695
  refine lv_istore (lv' := [(15, .int (nI 1)), (0, .ref b), (1, .ref (q 0)), (2, .ref a1), (3, .ref a2), (4, .long co), (6, .int (nI turn)), (7, .int vv), (8, .int ww), (10, .int (nI p0)), (11, .int (nI x0)), (12, .int (nI (p0 * 4 + x0))), (13, .int (nI k)), (14, .int (nI t))]) hx hb dL_law_698 hl (by decide) rfl (fun ls hl => ?_)
  exact hk _ _ _ _ (lqI_mk hR hP hD hS) (lv_sub hl [1, 2, 3, 4, 5, 6, 7, 8, 0] rfl)
set_option maxHeartbeats 4000000 in
set_option maxRecDepth 100000 in
theorem lb_tail {p : Program} {l : Launch} {e : Env} {s : State} {m : MethodId} {below : List Frame} {meth : Method} {c : Code} {b L : Nat} {xs : Nat → Int32} {D : va_G} {cI : ClassId} {q : Nat → Nat} {a1 a2 : Nat} {co : Int64} {H : Heap} {locs : List Loc} {ls : Array Slot} {turn : Nat} {vv ww : Int32} (hC : lqC p s m meth c b L xs D cI)  (hI : lqI D cI q a1 a2 co s H locs) (hl : lv_has ls 24 (lqM b q a1 a2 co turn vv ww)) (he : ∀ (ls : Array Slot), lv_has ls 24 (lqL b q a1 a2 co (turn + 1)) → W p l e room_1 s m #[Value.ref b] below meth c H locs 96 1076 (lw_Z below #[Value.ref b] s) (F0 m 45 ls [])) : W p l e room_1 s m #[Value.ref b] below meth c H locs 96 1076 (lw_Z below #[Value.ref b] s) (F0 m 700 ls []) := by
  obtain ⟨C0, hK, hL⟩ := id hC
  obtain ⟨hx, hb, hr, hml, hown, hts0, hX, hbl, hlocks, hgv⟩ := id C0
  have hts : ∀ w ∈ wsL_law, w.before #[Value.ref b] s = true := fun w h => hts0 w (wsL_law_in w h)
  have hown : s.vm.findClass RL = some m.cls := hown
  have hbA : ¬ (fun a : Nat => s.heap.size ≤ a) b := Nat.not_le.mpr hbl
  obtain ⟨sh, sp, ld, nm, tx, ds, ct, kg, ks, sg, lq, T, K, Ld, NT, NK, hR, hP, hD, hS⟩ := hI
  have hl : lv_has ls 24 [(0, .ref b), (1, .ref (q 0)), (2, .ref a1), (3, .ref a2), (4, .long co), (6, .int (nI turn)), (7, .int vv), (8, .int ww), (15, .int (nI 1))] := hl
  refine lv_iconst (v := nI 0) hx hb dL_law_700 (by decide) ?_
  refine lv_istore (lv' := [(16, .int (nI 0)), (0, .ref b), (1, .ref (q 0)), (2, .ref a1), (3, .ref a2), (4, .long co), (6, .int (nI turn)), (7, .int vv), (8, .int ww), (15, .int (nI 1))]) hx hb dL_law_701 hl (by decide) rfl (fun ls hl => ?_)
  refine W.loop (fun i ls => lv_has ls 24 [(0, .ref b), (1, .ref (q 0)), (2, .ref a1), (3, .ref a2), (4, .long co), (6, .int (nI turn)), (7, .int vv), (8, .int ww), (15, .int (nI 1)), (16, .int (nI (5 * i)))]) (7) (0) (by omega) (lv_sub hl [1, 2, 3, 4, 5, 6, 7, 8, 9, 0] rfl) ?_
  intro i ls hi_703 hI_703 ih_703
  have hl := hI_703
  refine lv_iload hx hb dL_law_703 (lv_at hl 9 rfl) ?_
  refine lv_bipush (v := nI 32) hx hb dL_law_705 (by decide) ?_
  refine n_icmp_ge (tgt := 787) hx hb dL_law_707 (by decide) (by omega) (by omega) (fun c_707 => ?_) (fun c_707 => ?_)
  · refine lv_iload hx hb dL_law_787 (lv_at hl 8 rfl) ?_
    refine n_if_eq (tgt := 825) hx hb dL_law_789 (by decide) (by decide) (fun c_789 => absurd c_789 (by decide)) (fun _ => ?_)
    refine lv_aload_n hx hb dL_law_792 rfl (lv_at hl 1 rfl) ?_
    refine k_callV (v := some (.long co)) (As := []) (rest := []) ⟨hx, hb, hml, hown, hts⟩ (c_X0_cost l D cI q sh sp ld nm tx ds ct co kg ks) (cwV 0 hts gL_law_X0_cost rfl rfl rfl (by decide +kernel) ⟨Nat.le_of_ble_eq_true rfl, Nat.le_of_ble_eq_true rfl⟩) k_B_bl (k_B_of (hP.sub [0, 1, 2, 3, 4, 5, 6, 7, 8] rfl) hK) (va_recv hK hP (ci := 0) (q0 := 0) rfl rfl) rfl hl.1 rfl (Nat.le_of_ble_eq_true rfl) dL_law_793 ⟨Nat.le_of_ble_eq_true rfl, Nat.le_of_ble_eq_true rfl⟩ ?_
    refine lv_lload hx hb dL_law_796 (lv_at hl 4 rfl) ?_
    refine n_lcmpEq hx hb rfl dL_law_798 ?_
    refine n_if_ne (tgt := 825) hx hb dL_law_799 (by decide) (by decide) (fun c_799 => absurd c_799 (by decide)) (fun _ => ?_)
    refine lv_aload_n hx hb dL_law_802 rfl (lv_at hl 1 rfl) ?_
    refine lv_iload hx hb dL_law_803 (lv_at hl 6 rfl) ?_
    refine lv_iconst (v := nI 4) hx hb dL_law_805 (by decide) ?_
    refine lv_ishr hx hb dL_law_806 ?_
    refine lv_bipush (v := nI 8) hx hb dL_law_807 (by decide) ?_
    refine k_callSi (As := [.int (vv >>> ((nI 4) &&& 31)), .int (nI 8)]) (rest := [.ref (q 0)]) ⟨hx, hb, hml, hown, hts⟩ (c_L_low l (vv >>> ((nI 4) &&& 31)) 8 (by decide) (by decide)) (va_cwS 2 hts gL_law_L_low rfl rfl rfl (by decide +kernel) ⟨Nat.le_of_ble_eq_true rfl, Nat.le_of_ble_eq_true rfl⟩) k_bl_tt (fun _ _ _ => trivial) rfl hl.1 rfl (Nat.le_of_ble_eq_true rfl) dL_law_809 ⟨Nat.le_of_ble_eq_true rfl, Nat.le_of_ble_eq_true rfl⟩ ?_
    obtain ⟨y809, e_y809⟩ : ∃ z, lowN (vv >>> ((nI 4) &&& 31)) 8 = z := ⟨_, rfl⟩
    have h_y809 : y809 < 8 := by rw [← e_y809]; exact lowN_lt _ (by decide)
    refine lv_as (y := nI y809) (congrArg nI e_y809) ?_
    refine lv_iload hx hb dL_law_812 (lv_at hl 7 rfl) ?_
    refine lv_bipush (v := nI 8) hx hb dL_law_814 (by decide) ?_
    refine k_callSi (As := [.int ww, .int (nI 8)]) (rest := [.int (nI y809), .ref (q 0)]) ⟨hx, hb, hml, hown, hts⟩ (c_L_low l ww 8 (by decide) (by decide)) (va_cwS 2 hts gL_law_L_low rfl rfl rfl (by decide +kernel) ⟨Nat.le_of_ble_eq_true rfl, Nat.le_of_ble_eq_true rfl⟩) k_bl_tt (fun _ _ _ => trivial) rfl hl.1 rfl (Nat.le_of_ble_eq_true rfl) dL_law_816 ⟨Nat.le_of_ble_eq_true rfl, Nat.le_of_ble_eq_true rfl⟩ ?_
    obtain ⟨y816, e_y816⟩ : ∃ z, lowN ww 8 = z := ⟨_, rfl⟩
    have h_y816 : y816 < 8 := by rw [← e_y816]; exact lowN_lt _ (by decide)
    refine lv_as (y := nI y816) (congrArg nI e_y816) ?_
    refine k_callSi (As := [.ref (q 0), .int (nI y809), .int (nI y816)]) (rest := []) ⟨hx, hb, hml, hown, hts⟩ (c_L_areGlyphs l D cI q sh sp ld nm tx ds ct co kg ks y809 y816 (by omega) (by omega) hR.1) (va_cwS 3 hts gL_law_L_areGlyphs rfl rfl rfl (by decide +kernel) ⟨Nat.le_of_ble_eq_true rfl, Nat.le_of_ble_eq_true rfl⟩) k_B_bl (k_B_of (hP.sub [0, 1, 2, 3, 4, 5, 6, 7, 8] rfl) hK) rfl hl.1 rfl (Nat.le_of_ble_eq_true rfl) dL_law_819 ⟨Nat.le_of_ble_eq_true rfl, Nat.le_of_ble_eq_true rfl⟩ ?_
    refine lv_as (y := nI 1) (rfl) ?_
    refine n_if_ne (tgt := 827) hx hb dL_law_822 (by decide) (by decide) (fun _ => ?_) (fun c_822 => absurd c_822 (by decide))
    refine lv_iinc (v := nI (turn + 1)) (lv' := [(6, .int (nI (turn + 1))), (0, .ref b), (1, .ref (q 0)), (2, .ref a1), (3, .ref a2), (4, .long co), (7, .int vv), (8, .int ww), (15, .int (nI 1)), (16, .int (nI (5 * i)))]) hx hb dL_law_827 hl (k := 5) rfl (nI_inc _) (by decide) rfl (fun ls hl => ?_)
    refine lv_goto (tgt := 45) hx hb dL_law_830 (by decide) ?_
    exact he _ (lv_sub hl [1, 2, 3, 4, 5, 0] rfl)
  · refine lv_iload hx hb dL_law_710 (lv_at hl 8 rfl) ?_
    refine n_if_eq (tgt := 787) hx hb dL_law_712 (by decide) (by decide) (fun c_712 => absurd c_712 (by decide)) (fun _ => ?_)
    have h5 : 5 * i / 4 * 4 + 5 * i % 4 = 5 * i := by omega
    by_cases hz : K (5 * i) = 0
    · refine lv_aload_n hx hb dL_law_715 rfl (lv_at hl 1 rfl) ?_
      refine lv_iload hx hb dL_law_716 (lv_at hl 9 rfl) ?_
      refine lv_iconst (v := nI 4) hx hb dL_law_718 (by decide) ?_
      refine lv_idiv hx hb dL_law_719 (nI_ne0 (by omega) (by omega)) ?_
      refine lv_as (y := nI ((5 * i) / 4)) (pk_div (by omega) (by omega) (by omega)) ?_
      refine lv_iload hx hb dL_law_720 (lv_at hl 9 rfl) ?_
      refine lv_iconst (v := nI 4) hx hb dL_law_722 (by decide) ?_
      refine lv_irem hx hb dL_law_723 (nI_ne0 (by omega) (by omega)) ?_
      refine lv_as (y := nI ((5 * i) % 4)) (pk_rem (by omega) (by omega) (by omega)) ?_
      refine k_callVi (As := [.int (nI ((5 * i) / 4)), .int (nI ((5 * i) % 4))]) (rest := []) ⟨hx, hb, hml, hown, hts⟩ (c_X0_read l D cI q sh sp ld nm tx ds ct co kg ks ((5 * i) / 4) ((5 * i) % 4) (by omega) (by omega) _ _ hR.hG hR.1 hR.hS0) (cwV 2 hts gL_law_X0_read rfl rfl rfl (by decide +kernel) ⟨Nat.le_of_ble_eq_true rfl, Nat.le_of_ble_eq_true rfl⟩) k_B_bl (k_B_of (hP.sub [0, 1, 2, 3, 4, 5, 6, 7, 8] rfl) hK) (va_recv hK hP (ci := 0) (q0 := 0) rfl rfl) rfl hl.1 rfl (Nat.le_of_ble_eq_true rfl) dL_law_724 ⟨Nat.le_of_ble_eq_true rfl, Nat.le_of_ble_eq_true rfl⟩ ?_
      refine lv_as (y := (-1)) (by rw [h5]; exact if_pos hz) ?_
      refine lv_if_lt (tgt := 734) hx hb dL_law_727 (by decide) (fun c_727 => ?_) (fun c_727 => ?_)
      · refine lv_iconst (v := nI 0) hx hb dL_law_734 (by decide) ?_
        refine lv_aload_n hx hb dL_law_735 rfl (lv_at hl 2 rfl) ?_
        refine lv_iload hx hb dL_law_736 (lv_at hl 9 rfl) ?_
        refine n_iald hx hb hK hP 9 0 rfl rfl (k := (5 * i)) (by omega) (Nat.le_of_ble_eq_true rfl) dL_law_738 ?_
        refine lv_as (y := nI 0) ((hR.hsg (by omega)).trans (by rw [if_pos hz])) ?_
        refine lv_iconst (v := nI 1) hx hb dL_law_739 (by decide) ?_
        refine n_icmp_ne (tgt := 747) hx hb dL_law_740 (by decide) (by omega) (by omega) (fun c_740 => ?_) (fun c_740 => ?_)
        · refine lv_iconst (v := nI 0) hx hb dL_law_747 (by decide) ?_
          refine n_icmp_ne_mm (tgt := 778) hx hb dL_law_748 (by decide) ?_
          refine lv_aload_n hx hb dL_law_751 rfl (lv_at hl 2 rfl) ?_
          refine lv_iload hx hb dL_law_752 (lv_at hl 9 rfl) ?_
          refine n_iald hx hb hK hP 9 0 rfl rfl (k := (5 * i)) (by omega) (Nat.le_of_ble_eq_true rfl) dL_law_754 ?_
          refine lv_as (y := nI 0) ((hR.hsg (by omega)).trans (by rw [if_pos hz])) ?_
          refine lv_iconst (v := nI 1) hx hb dL_law_755 (by decide) ?_
          refine n_icmp_eq (tgt := 774) hx hb dL_law_756 (by decide) (by omega) (by omega) (fun c_756 => ?_) (fun c_756 => ?_)
          · exact absurd c_756 (by decide)
          · refine lv_aload_n hx hb dL_law_759 rfl (lv_at hl 1 rfl) ?_
            refine lv_iload hx hb dL_law_760 (lv_at hl 9 rfl) ?_
            refine lv_iconst (v := nI 4) hx hb dL_law_762 (by decide) ?_
            refine lv_idiv hx hb dL_law_763 (nI_ne0 (by omega) (by omega)) ?_
            refine lv_as (y := nI ((5 * i) / 4)) (pk_div (by omega) (by omega) (by omega)) ?_
            refine lv_iload hx hb dL_law_764 (lv_at hl 9 rfl) ?_
            refine lv_iconst (v := nI 4) hx hb dL_law_766 (by decide) ?_
            refine lv_irem hx hb dL_law_767 (nI_ne0 (by omega) (by omega)) ?_
            refine lv_as (y := nI ((5 * i) % 4)) (pk_rem (by omega) (by omega) (by omega)) ?_
            refine k_callVi (As := [.int (nI ((5 * i) / 4)), .int (nI ((5 * i) % 4))]) (rest := []) ⟨hx, hb, hml, hown, hts⟩ (c_X0_isOld l D cI q sh sp ld nm tx ds ct co kg ks ((5 * i) / 4) ((5 * i) % 4) (by omega) (by omega) _ _ hR.hG) (cwV 2 hts gL_law_X0_isOld rfl rfl rfl (by decide +kernel) ⟨Nat.le_of_ble_eq_true rfl, Nat.le_of_ble_eq_true rfl⟩) k_B_bl (k_B_of (hP.sub [0, 1, 2, 3, 4, 5, 6, 7, 8] rfl) hK) (va_recv hK hP (ci := 0) (q0 := 0) rfl rfl) rfl hl.1 rfl (Nat.le_of_ble_eq_true rfl) dL_law_768 ⟨Nat.le_of_ble_eq_true rfl, Nat.le_of_ble_eq_true rfl⟩ ?_
            refine lv_as (y := nI 0) (by rw [h5, hz]; rfl) ?_
            refine n_if_ne (tgt := 778) hx hb dL_law_771 (by decide) (by decide) (fun c_771 => absurd c_771 (by decide)) (fun _ => ?_)
            refine lv_iconst (v := nI 1) hx hb dL_law_774 (by decide) ?_
            refine lv_goto (tgt := 779) hx hb dL_law_775 (by decide) ?_
            refine lv_istore (lv' := [(15, .int (nI 1)), (0, .ref b), (1, .ref (q 0)), (2, .ref a1), (3, .ref a2), (4, .long co), (6, .int (nI turn)), (7, .int vv), (8, .int ww), (16, .int (nI (5 * i)))]) hx hb dL_law_779 hl (by decide) rfl (fun ls hl => ?_)
            refine lv_iinc (v := nI (5 * (i + 1))) (lv' := [(16, .int (nI (5 * (i + 1)))), (15, .int (nI 1)), (0, .ref b), (1, .ref (q 0)), (2, .ref a1), (3, .ref a2), (4, .long co), (6, .int (nI turn)), (7, .int vv), (8, .int ww)]) hx hb dL_law_781 hl (k := 9) rfl ((nI_add _ 5).trans (congrArg nI (by omega))) (by decide) rfl (fun ls hl => ?_)
            refine lv_goto (tgt := 703) hx hb dL_law_784 (by decide) ?_
            exact ih_703 _ (by omega) (lv_sub hl [2, 3, 4, 5, 6, 7, 8, 9, 1, 0] rfl)
        · exact absurd c_740 (by decide)
      · exact absurd (by decide) c_727
    · obtain ⟨r, hr15, er⟩ := hR.rd (w := 5 * i) (by omega) hz
      refine lv_aload_n hx hb dL_law_715 rfl (lv_at hl 1 rfl) ?_
      refine lv_iload hx hb dL_law_716 (lv_at hl 9 rfl) ?_
      refine lv_iconst (v := nI 4) hx hb dL_law_718 (by decide) ?_
      refine lv_idiv hx hb dL_law_719 (nI_ne0 (by omega) (by omega)) ?_
      refine lv_as (y := nI ((5 * i) / 4)) (pk_div (by omega) (by omega) (by omega)) ?_
      refine lv_iload hx hb dL_law_720 (lv_at hl 9 rfl) ?_
      refine lv_iconst (v := nI 4) hx hb dL_law_722 (by decide) ?_
      refine lv_irem hx hb dL_law_723 (nI_ne0 (by omega) (by omega)) ?_
      refine lv_as (y := nI ((5 * i) % 4)) (pk_rem (by omega) (by omega) (by omega)) ?_
      refine k_callVi (As := [.int (nI ((5 * i) / 4)), .int (nI ((5 * i) % 4))]) (rest := []) ⟨hx, hb, hml, hown, hts⟩ (c_X0_read l D cI q sh sp ld nm tx ds ct co kg ks ((5 * i) / 4) ((5 * i) % 4) (by omega) (by omega) _ _ hR.hG hR.1 hR.hS0) (cwV 2 hts gL_law_X0_read rfl rfl rfl (by decide +kernel) ⟨Nat.le_of_ble_eq_true rfl, Nat.le_of_ble_eq_true rfl⟩) k_B_bl (k_B_of (hP.sub [0, 1, 2, 3, 4, 5, 6, 7, 8] rfl) hK) (va_recv hK hP (ci := 0) (q0 := 0) rfl rfl) rfl hl.1 rfl (Nat.le_of_ble_eq_true rfl) dL_law_724 ⟨Nat.le_of_ble_eq_true rfl, Nat.le_of_ble_eq_true rfl⟩ ?_
      refine lv_as (y := nI r) (by rw [h5]; exact er) ?_
      refine n_if_lt (tgt := 734) hx hb dL_law_727 (by decide) (by omega) ?_
      refine lv_iconst (v := nI 1) hx hb dL_law_730 (by decide) ?_
      refine lv_goto (tgt := 735) hx hb dL_law_731 (by decide) ?_
      refine lv_aload_n hx hb dL_law_735 rfl (lv_at hl 2 rfl) ?_
      refine lv_iload hx hb dL_law_736 (lv_at hl 9 rfl) ?_
      refine n_iald hx hb hK hP 9 0 rfl rfl (k := (5 * i)) (by omega) (Nat.le_of_ble_eq_true rfl) dL_law_738 ?_
      refine lv_as (y := nI 1) ((hR.hsg (by omega)).trans (by rw [if_neg hz])) ?_
      refine lv_iconst (v := nI 1) hx hb dL_law_739 (by decide) ?_
      refine n_icmp_ne_mm (tgt := 747) hx hb dL_law_740 (by decide) ?_
      refine lv_iconst (v := nI 1) hx hb dL_law_743 (by decide) ?_
      refine lv_goto (tgt := 748) hx hb dL_law_744 (by decide) ?_
      refine n_icmp_ne_mm (tgt := 778) hx hb dL_law_748 (by decide) ?_
      refine lv_aload_n hx hb dL_law_751 rfl (lv_at hl 2 rfl) ?_
      refine lv_iload hx hb dL_law_752 (lv_at hl 9 rfl) ?_
      refine n_iald hx hb hK hP 9 0 rfl rfl (k := (5 * i)) (by omega) (Nat.le_of_ble_eq_true rfl) dL_law_754 ?_
      refine lv_as (y := nI 1) ((hR.hsg (by omega)).trans (by rw [if_neg hz])) ?_
      refine lv_iconst (v := nI 1) hx hb dL_law_755 (by decide) ?_
      refine n_icmp_eq (tgt := 774) hx hb dL_law_756 (by decide) (by omega) (by omega) (fun c_756 => ?_) (fun c_756 => ?_)
      · refine lv_iconst (v := nI 1) hx hb dL_law_774 (by decide) ?_
        refine lv_goto (tgt := 779) hx hb dL_law_775 (by decide) ?_
        refine lv_istore (lv' := [(15, .int (nI 1)), (0, .ref b), (1, .ref (q 0)), (2, .ref a1), (3, .ref a2), (4, .long co), (6, .int (nI turn)), (7, .int vv), (8, .int ww), (16, .int (nI (5 * i)))]) hx hb dL_law_779 hl (by decide) rfl (fun ls hl => ?_)
        refine lv_iinc (v := nI (5 * (i + 1))) (lv' := [(16, .int (nI (5 * (i + 1)))), (15, .int (nI 1)), (0, .ref b), (1, .ref (q 0)), (2, .ref a1), (3, .ref a2), (4, .long co), (6, .int (nI turn)), (7, .int vv), (8, .int ww)]) hx hb dL_law_781 hl (k := 9) rfl ((nI_add _ 5).trans (congrArg nI (by omega))) (by decide) rfl (fun ls hl => ?_)
        refine lv_goto (tgt := 703) hx hb dL_law_784 (by decide) ?_
        exact ih_703 _ (by omega) (lv_sub hl [2, 3, 4, 5, 6, 7, 8, 9, 1, 0] rfl)
      · exact absurd rfl c_756
end
section
set_option maxHeartbeats 4000000 in
set_option maxRecDepth 100000 in
theorem law_loop {p : Program} {l : Launch} {e : Env} {s : State} {m : MethodId} {below : List Frame} {meth : Method} {c : Code} {b L : Nat} {xs : Nat → Int32} {D : va_G} {cI : ClassId} {q : Nat → Nat} {a1 a2 : Nat} {co : Int64} {H : Heap} {locs : List Loc} {ls : Array Slot} (hC : lqC p s m meth c b L xs D cI) (hI : lqI D cI q a1 a2 co s H locs) (hl : lv_has ls 24 (lqL b q a1 a2 co 0)) : W p l e room_1 s m #[Value.ref b] below meth c H locs 96 1076 (lw_Z below #[Value.ref b] s) (F0 m 45 ls []) := by
  obtain ⟨C0, hK, hL⟩ := id hC
  obtain ⟨hx, hb, hr, hml, hown, hts0, hX, hbl, hlocks, hgv⟩ := id C0
  have hts : ∀ w ∈ wsL_law, w.before #[Value.ref b] s = true := fun w h => hts0 w (wsL_law_in w h)
  have hown : s.vm.findClass RL = some m.cls := hown
  have hbA : ¬ (fun a : Nat => s.heap.size ≤ a) b := Nat.not_le.mpr hbl
  refine W.loopH (fun turn H locs ls => ∃ co, lqI D cI q a1 a2 co s H locs ∧ lv_has ls 24 (lqL b q a1 a2 co turn)) 60 0 (Nat.zero_le _) ⟨co, hI, hl⟩ ?_
  clear hI hl
  intro turn H locs ls hi hI ih
  obtain ⟨co, hI, hl⟩ := hI
  have hS : va_S (fun a : Nat => s.heap.size ≤ a) s.heap H locs := by
    obtain ⟨_, _, _, _, _, _, _, _, _, _, _, _, _, _, _, _, -, -, -, hS⟩ := hI
    exact hS
  have hl : lv_has ls 24 [(0, .ref b), (1, .ref (q 0)), (2, .ref a1), (3, .ref a2), (4, .long co), (6, .int (nI turn))] := hl
  refine lv_iload hx hb dL_law_45 (lv_at hl 5 rfl) ?_
  refine lv_bipush (v := nI 60) hx hb dL_law_47 (by decide) ?_
  refine n_icmp_ge (tgt := 833) hx hb dL_law_49 (by decide) (by omega) (by omega) (fun c_49 => ?_) (fun c_49 => ?_)
  · refine lv_iconst (v := nI 1) hx hb dL_law_833 (by decide) ?_
    refine va_forget (fun z hz => hS.2.2 z hz) ?_
    exact lw_ret hx hb hr hlocks dL_law_834
  · refine lv_aload_n hx hb dL_law_52 rfl (lv_at hl 0 rfl) ?_
    refine lv_iconst (v := nI 2) hx hb dL_law_53 (by decide) ?_
    refine lv_iload hx hb dL_law_54 (lv_at hl 5 rfl) ?_
    refine lv_imul hx hb dL_law_56 ?_
    refine lv_as (y := nI (2 * turn)) (pk_mul _ _) ?_
    refine k_callSi (As := [.ref b, .int (nI (2 * turn))]) (rest := []) ⟨hx, hb, hml, hown, hts⟩ (c_L_cell l b L xs (2 * turn) (by omega) (by omega)) (va_cwS 2 hts gL_law_L_cell rfl rfl rfl (by decide +kernel) ⟨Nat.le_of_ble_eq_true rfl, Nat.le_of_ble_eq_true rfl⟩) k_X_bl (k_X_of hX hbl hbA hS) rfl hl.1 rfl (Nat.le_of_ble_eq_true rfl) dL_law_57 ⟨Nat.le_of_ble_eq_true rfl, Nat.le_of_ble_eq_true rfl⟩ ?_
    obtain ⟨vv, e_vv⟩ : ∃ z, cellG L xs (2 * turn) = z := ⟨_, rfl⟩
    refine lv_as (y := vv) (e_vv) ?_
    refine lv_istore (lv' := [(7, .int vv), (0, .ref b), (1, .ref (q 0)), (2, .ref a1), (3, .ref a2), (4, .long co), (6, .int (nI turn))]) hx hb dL_law_60 hl (by decide) rfl (fun ls hl => ?_)
    refine lv_aload_n hx hb dL_law_62 rfl (lv_at hl 1 rfl) ?_
    refine lv_iconst (v := nI 2) hx hb dL_law_63 (by decide) ?_
    refine lv_iload hx hb dL_law_64 (lv_at hl 6 rfl) ?_
    refine lv_imul hx hb dL_law_66 ?_
    refine lv_as (y := nI (2 * turn)) (pk_mul _ _) ?_
    refine lv_iconst (v := nI 1) hx hb dL_law_67 (by decide) ?_
    refine lv_iadd hx hb dL_law_68 ?_
    refine lv_as (y := nI ((2 * turn) + 1)) (nI_add _ _) ?_
    refine k_callSi (As := [.ref b, .int (nI ((2 * turn) + 1))]) (rest := []) ⟨hx, hb, hml, hown, hts⟩ (c_L_cell l b L xs ((2 * turn) + 1) (by omega) (by omega)) (va_cwS 2 hts gL_law_L_cell rfl rfl rfl (by decide +kernel) ⟨Nat.le_of_ble_eq_true rfl, Nat.le_of_ble_eq_true rfl⟩) k_X_bl (k_X_of hX hbl hbA hS) rfl hl.1 rfl (Nat.le_of_ble_eq_true rfl) dL_law_69 ⟨Nat.le_of_ble_eq_true rfl, Nat.le_of_ble_eq_true rfl⟩ ?_
    obtain ⟨ww, e_ww⟩ : ∃ z, cellG L xs ((2 * turn) + 1) = z := ⟨_, rfl⟩
    refine lv_as (y := ww) (e_ww) ?_
    refine lv_istore (lv' := [(8, .int ww), (7, .int vv), (0, .ref b), (1, .ref (q 0)), (2, .ref a1), (3, .ref a2), (4, .long co), (6, .int (nI turn))]) hx hb dL_law_72 hl (by decide) rfl (fun ls hl => ?_)
    refine lv_iload hx hb dL_law_74 (lv_at hl 1 rfl) ?_
    refine lv_bipush (v := nI 13) hx hb dL_law_76 (by decide) ?_
    refine k_callSi (As := [.int vv, .int (nI 13)]) (rest := []) ⟨hx, hb, hml, hown, hts⟩ (c_L_low l vv 13 (by decide) (by decide)) (va_cwS 2 hts gL_law_L_low rfl rfl rfl (by decide +kernel) ⟨Nat.le_of_ble_eq_true rfl, Nat.le_of_ble_eq_true rfl⟩) k_bl_tt (fun _ _ _ => trivial) rfl hl.1 rfl (Nat.le_of_ble_eq_true rfl) dL_law_78 ⟨Nat.le_of_ble_eq_true rfl, Nat.le_of_ble_eq_true rfl⟩ ?_
    obtain ⟨what, e_what⟩ : ∃ z, lowN vv 13 = z := ⟨_, rfl⟩
    have h_what : what < 13 := by rw [← e_what]; exact lowN_lt _ (by decide)
    refine lv_as (y := nI what) (congrArg nI e_what) ?_
    refine lv_istore (lv' := [(9, .int (nI what)), (8, .int ww), (7, .int vv), (0, .ref b), (1, .ref (q 0)), (2, .ref a1), (3, .ref a2), (4, .long co), (6, .int (nI turn))]) hx hb dL_law_81 hl (by decide) rfl (fun ls hl => ?_)
    refine lv_iload hx hb dL_law_83 (lv_at hl 1 rfl) ?_
    refine lv_bipush (v := nI 8) hx hb dL_law_85 (by decide) ?_
    refine k_callSi (As := [.int ww, .int (nI 8)]) (rest := []) ⟨hx, hb, hml, hown, hts⟩ (c_L_low l ww 8 (by decide) (by decide)) (va_cwS 2 hts gL_law_L_low rfl rfl rfl (by decide +kernel) ⟨Nat.le_of_ble_eq_true rfl, Nat.le_of_ble_eq_true rfl⟩) k_bl_tt (fun _ _ _ => trivial) rfl hl.1 rfl (Nat.le_of_ble_eq_true rfl) dL_law_87 ⟨Nat.le_of_ble_eq_true rfl, Nat.le_of_ble_eq_true rfl⟩ ?_
    obtain ⟨p0, e_p0⟩ : ∃ z, lowN ww 8 = z := ⟨_, rfl⟩
    have h_p0 : p0 < 8 := by rw [← e_p0]; exact lowN_lt _ (by decide)
    refine lv_as (y := nI p0) (congrArg nI e_p0) ?_
    refine lv_istore (lv' := [(10, .int (nI p0)), (9, .int (nI what)), (8, .int ww), (7, .int vv), (0, .ref b), (1, .ref (q 0)), (2, .ref a1), (3, .ref a2), (4, .long co), (6, .int (nI turn))]) hx hb dL_law_90 hl (by decide) rfl (fun ls hl => ?_)
    refine lv_iload hx hb dL_law_92 (lv_at hl 2 rfl) ?_
    refine lv_iconst (v := nI 3) hx hb dL_law_94 (by decide) ?_
    refine lv_ishr hx hb dL_law_95 ?_
    refine lv_iconst (v := nI 4) hx hb dL_law_96 (by decide) ?_
    refine k_callSi (As := [.int (ww >>> ((nI 3) &&& 31)), .int (nI 4)]) (rest := []) ⟨hx, hb, hml, hown, hts⟩ (c_L_low l (ww >>> ((nI 3) &&& 31)) 4 (by decide) (by decide)) (va_cwS 2 hts gL_law_L_low rfl rfl rfl (by decide +kernel) ⟨Nat.le_of_ble_eq_true rfl, Nat.le_of_ble_eq_true rfl⟩) k_bl_tt (fun _ _ _ => trivial) rfl hl.1 rfl (Nat.le_of_ble_eq_true rfl) dL_law_97 ⟨Nat.le_of_ble_eq_true rfl, Nat.le_of_ble_eq_true rfl⟩ ?_
    obtain ⟨x0, e_x0⟩ : ∃ z, lowN (ww >>> ((nI 3) &&& 31)) 4 = z := ⟨_, rfl⟩
    have h_x0 : x0 < 4 := by rw [← e_x0]; exact lowN_lt _ (by decide)
    refine lv_as (y := nI x0) (congrArg nI e_x0) ?_
    refine lv_istore (lv' := [(11, .int (nI x0)), (10, .int (nI p0)), (9, .int (nI what)), (8, .int ww), (7, .int vv), (0, .ref b), (1, .ref (q 0)), (2, .ref a1), (3, .ref a2), (4, .long co), (6, .int (nI turn))]) hx hb dL_law_100 hl (by decide) rfl (fun ls hl => ?_)
    refine lv_iconst (v := nI 4) hx hb dL_law_102 (by decide) ?_
    refine lv_iload hx hb dL_law_103 (lv_at hl 1 rfl) ?_
    refine lv_imul hx hb dL_law_105 ?_
    refine lv_as (y := nI (4 * p0)) (pk_mul _ _) ?_
    refine lv_iload hx hb dL_law_106 (lv_at hl 0 rfl) ?_
    refine lv_iadd hx hb dL_law_108 ?_
    refine lv_as (y := nI (p0 * 4 + x0)) ((nI_add _ _).trans (congrArg nI (by omega))) ?_
    refine lv_istore (lv' := [(12, .int (nI (p0 * 4 + x0))), (11, .int (nI x0)), (10, .int (nI p0)), (9, .int (nI what)), (8, .int ww), (7, .int vv), (0, .ref b), (1, .ref (q 0)), (2, .ref a1), (3, .ref a2), (4, .long co), (6, .int (nI turn))]) hx hb dL_law_109 hl (by decide) rfl (fun ls hl => ?_)
    refine lv_iconst (v := nI 1) hx hb dL_law_111 (by decide) ?_
    refine lv_iload hx hb dL_law_112 (lv_at hl 4 rfl) ?_
    refine lv_iconst (v := nI 5) hx hb dL_law_114 (by decide) ?_
    refine lv_ishr hx hb dL_law_115 ?_
    refine lv_iconst (v := nI 5) hx hb dL_law_116 (by decide) ?_
    refine k_callSi (As := [.int (ww >>> ((nI 5) &&& 31)), .int (nI 5)]) (rest := [.int (nI 1)]) ⟨hx, hb, hml, hown, hts⟩ (c_L_low l (ww >>> ((nI 5) &&& 31)) 5 (by decide) (by decide)) (va_cwS 2 hts gL_law_L_low rfl rfl rfl (by decide +kernel) ⟨Nat.le_of_ble_eq_true rfl, Nat.le_of_ble_eq_true rfl⟩) k_bl_tt (fun _ _ _ => trivial) rfl hl.1 rfl (Nat.le_of_ble_eq_true rfl) dL_law_117 ⟨Nat.le_of_ble_eq_true rfl, Nat.le_of_ble_eq_true rfl⟩ ?_
    obtain ⟨mk, e_mk⟩ : ∃ z, lowN (ww >>> ((nI 5) &&& 31)) 5 = z := ⟨_, rfl⟩
    have h_mk : mk < 5 := by rw [← e_mk]; exact lowN_lt _ (by decide)
    refine lv_as (y := nI mk) (congrArg nI e_mk) ?_
    refine lv_iadd hx hb dL_law_120 ?_
    obtain ⟨k, hk1, hk5, ek⟩ : ∃ k, 1 ≤ k ∧ k ≤ 5 ∧ nI 1 + nI mk = nI k := ⟨1 + mk, by omega, by omega, nI_add _ _⟩
    refine lv_as (y := nI k) (ek) ?_
    refine lv_istore (lv' := [(13, .int (nI k)), (12, .int (nI (p0 * 4 + x0))), (11, .int (nI x0)), (10, .int (nI p0)), (9, .int (nI what)), (8, .int ww), (7, .int vv), (0, .ref b), (1, .ref (q 0)), (2, .ref a1), (3, .ref a2), (4, .long co), (6, .int (nI turn))]) hx hb dL_law_121 hl (by decide) rfl (fun ls hl => ?_)
    refine lv_iload hx hb dL_law_123 (lv_at hl 5 rfl) ?_
    refine lv_bipush (v := nI 8) hx hb dL_law_125 (by decide) ?_
    refine lv_ishr hx hb dL_law_127 ?_
    refine lv_iconst (v := nI 1) hx hb dL_law_128 (by decide) ?_
    refine lv_iconst (v := nI 3) hx hb dL_law_129 (by decide) ?_
    refine lv_iload hx hb dL_law_130 (lv_at hl 0 rfl) ?_
    refine lv_imul hx hb dL_law_132 ?_
    refine lv_as (y := nI (3 * k)) (pk_mul _ _) ?_
    refine lv_ishl hx hb dL_law_133 ?_
    refine lv_as (y := nI (8 ^ k)) (shl8 k (by omega)) ?_
    refine k_callSi (As := [.int (ww >>> ((nI 8) &&& 31)), .int (nI (8 ^ k))]) (rest := []) ⟨hx, hb, hml, hown, hts⟩ (c_L_low l (ww >>> ((nI 8) &&& 31)) (8 ^ k) (p8_pos _) (by have := p8_le (k := k) (by omega); omega)) (va_cwS 2 hts gL_law_L_low rfl rfl rfl (by decide +kernel) ⟨Nat.le_of_ble_eq_true rfl, Nat.le_of_ble_eq_true rfl⟩) k_bl_tt (fun _ _ _ => trivial) rfl hl.1 rfl (Nat.le_of_ble_eq_true rfl) dL_law_134 ⟨Nat.le_of_ble_eq_true rfl, Nat.le_of_ble_eq_true rfl⟩ ?_
    obtain ⟨t, e_t⟩ : ∃ z, lowN (ww >>> ((nI 8) &&& 31)) (8 ^ k) = z := ⟨_, rfl⟩
    have h_t : t < 8 ^ k := by rw [← e_t]; exact lowN_lt _ (p8_pos _)
    refine lv_as (y := nI t) (congrArg nI e_t) ?_
    refine lv_istore (lv' := [(14, .int (nI t)), (13, .int (nI k)), (12, .int (nI (p0 * 4 + x0))), (11, .int (nI x0)), (10, .int (nI p0)), (9, .int (nI what)), (8, .int ww), (7, .int vv), (0, .ref b), (1, .ref (q 0)), (2, .ref a1), (3, .ref a2), (4, .long co), (6, .int (nI turn))]) hx hb dL_law_137 hl (by decide) rfl (fun ls hl => ?_)
    refine lv_iconst (v := nI 1) hx hb dL_law_139 (by decide) ?_
    refine lv_istore (lv' := [(15, .int (nI 1)), (14, .int (nI t)), (13, .int (nI k)), (12, .int (nI (p0 * 4 + x0))), (11, .int (nI x0)), (10, .int (nI p0)), (9, .int (nI what)), (8, .int ww), (7, .int vv), (0, .ref b), (1, .ref (q 0)), (2, .ref a1), (3, .ref a2), (4, .long co), (6, .int (nI turn))]) hx hb dL_law_140 hl (by decide) rfl (fun ls hl => ?_)
    refine lv_iload hx hb dL_law_142 (lv_at hl 6 rfl) ?_
    refine lv_iconst (v := nI 4) hx hb dL_law_144 (by decide) ?_
    refine n_icmp_ge (tgt := 347) hx hb dL_law_145 (by decide) (by omega) (by omega) (fun c_145 => ?_) (fun c_145 => ?_)
    · refine lv_iload hx hb dL_law_347 (lv_at hl 6 rfl) ?_
      refine lv_iconst (v := nI 4) hx hb dL_law_349 (by decide) ?_
      refine n_icmp_ne (tgt := 426) hx hb dL_law_350 (by decide) (by omega) (by omega) (fun c_350 => ?_) (fun c_350 => ?_)
      · refine lv_iload hx hb dL_law_426 (lv_at hl 6 rfl) ?_
        refine lv_bipush (v := nI 7) hx hb dL_law_428 (by decide) ?_
        refine n_icmp_ge (tgt := 480) hx hb dL_law_430 (by decide) (by omega) (by omega) (fun c_430 => ?_) (fun c_430 => ?_)
        · refine lv_iload hx hb dL_law_480 (lv_at hl 6 rfl) ?_
          refine lv_bipush (v := nI 7) hx hb dL_law_482 (by decide) ?_
          refine n_icmp_ne (tgt := 520) hx hb dL_law_484 (by decide) (by omega) (by omega) (fun c_484 => ?_) (fun c_484 => ?_)
          · refine lv_iload hx hb dL_law_520 (lv_at hl 6 rfl) ?_
            refine lv_bipush (v := nI 10) hx hb dL_law_522 (by decide) ?_
            refine n_icmp_ge (tgt := 631) hx hb dL_law_524 (by decide) (by omega) (by omega) (fun c_524 => ?_) (fun c_524 => ?_)
            · refine lv_iload hx hb dL_law_631 (lv_at hl 6 rfl) ?_
              refine lv_bipush (v := nI 10) hx hb dL_law_633 (by decide) ?_
              refine n_icmp_ne (tgt := 688) hx hb dL_law_635 (by decide) (by omega) (by omega) (fun c_635 => ?_) (fun c_635 => ?_)
              · exact lb_walk hC h_p0 h_x0 hk1 hk5 h_t hI (lv_sub hl [9, 10, 11, 12, 13, 14, 8, 7, 0, 5, 4, 3, 2, 1] rfl) (fun H locs ls co hI hl => lb_tail hC hI hl (fun ls hl => ih _ _ _ (by omega) ⟨co, hI, hl⟩))
              · exact lb_remove hC h_p0 h_x0 hk1 hk5 h_t hI (lv_sub hl [9, 10, 11, 12, 13, 14, 8, 7, 0, 5, 4, 3, 2, 1] rfl) (fun H locs ls co hI hl => lb_tail hC hI hl (fun ls hl => ih _ _ _ (by omega) ⟨co, hI, hl⟩))
            · exact lb_cut hC h_p0 h_x0 hk1 hk5 h_t hI (lv_sub hl [9, 10, 11, 12, 13, 14, 8, 7, 0, 5, 4, 3, 2, 1] rfl) (fun H locs ls co hI hl => lb_tail hC hI hl (fun ls hl => ih _ _ _ (by omega) ⟨co, hI, hl⟩))
          · exact lb_name hC h_p0 h_x0 hk1 hk5 h_t hI (lv_sub hl [9, 10, 11, 12, 13, 14, 8, 7, 0, 5, 4, 3, 2, 1] rfl) (fun H locs ls co hI hl => lb_tail hC hI hl (fun ls hl => ih _ _ _ (by omega) ⟨co, hI, hl⟩))
        · exact lb_lead hC h_p0 h_x0 hk1 hk5 h_t hI (lv_sub hl [9, 10, 11, 12, 13, 14, 8, 7, 0, 5, 4, 3, 2, 1] rfl) (fun H locs ls co hI hl => lb_tail hC hI hl (fun ls hl => ih _ _ _ (by omega) ⟨co, hI, hl⟩))
      · exact lb_space hC hI (lv_sub hl [9, 10, 11, 12, 13, 14, 8, 7, 0] rfl) (fun H locs ls co hI hl => lb_tail hC hI hl (fun ls hl => ih _ _ _ (by omega) ⟨co, hI, hl⟩))
    · exact lb_stroke hC hI (lv_sub hl [9, 10, 11, 12, 13, 14, 8, 7, 0] rfl) (fun H locs ls co hI hl => lb_tail hC hI hl (fun ls hl => ih _ _ _ (by omega) ⟨co, hI, hl⟩))
end
section
theorem v_upd {tk : Nat → Int32} {i : Nat} {x : Int32} (h : ∀ v, v < i → tk v = x) : ∀ v, v < i + 1 → upd tk i x v = x := by
  intro v hv
  by_cases e : v = i
  · subst e
    exact pk_us
  · rw [pk_un e]
    exact h v (by omega)
theorem lqR_0 {lq1 : Nat → Int32} (h : ∀ v, v < 32 → lq1 v = -1) : lqR z0 (fa_fill (fun _ => -1) z0 32) z0 z0 z0 z0 (nI 0) z0 z0 lq1 (fun _ => 0) (fun _ => 0) (fun _ => 8) (fun _ => 0) (fun _ => 0) := by
  refine ⟨fun _ _ => S25_0, fun w hw => ⟨Nat.le_refl _, fa_fill_in hw, h w hw⟩, fun _ _ => ⟨show 0 < 32768 by decide, show 0 ≤ 5 by decide, rfl⟩, fun _ _ => ⟨show 0 ≤ 5 by decide, show 0 < 8 ^ 0 by decide, rfl, fun j hj => absurd hj (Nat.not_lt_zero _), rfl⟩, kp_0 _ _⟩
set_option maxHeartbeats 4000000 in
set_option maxRecDepth 100000 in
theorem whole_start {p : Program} {e : Env} {s : State} {m : MethodId} {below : List Frame} {meth : Method} {c : Code} (l : Launch) (hflags : l.flags = flags0) {b L : Nat} {xs : Nat → Int32} (hL : L ≤ 260) (C0 : lw_At p s m meth c b L xs) : W p l e room_1 s m #[Value.ref b] below meth c s.heap [] 0 0 (lw_Z below #[Value.ref b] s) (entryFrame m ([Value.ref b] : List Value).toArray 24) := by
  obtain ⟨hx, hb, hr, hml, hown, hts0, hX, hbl, hlocks, hgv⟩ := id C0
  have hA : ∀ a : Nat, s.heap.size ≤ a → (fun a : Nat => s.heap.size ≤ a) a := fun _ h => h
  have hts : ∀ w ∈ wsL_law, w.before #[Value.ref b] s = true := fun w h => hts0 w (wsL_law_in w h)
  have hown : s.vm.findClass RL = some m.cls := hown
  obtain ⟨c0, iS0, hKn0⟩ := u_known (C := RX0) (T := TX0) (N := 10) (n := 10) hts inlX0 (hts0 (.instantiable RX0 10) (by decide +kernel))
  obtain ⟨D, hKc⟩ : ∃ D : va_G, ∀ (k : Nat) (q : vw_C), vwCl[k]? = some q → u_Kn s q.1 q.2.1 q.2.2 (D.1 k) (D.2 k) := by
    refine ⟨(fun _ => c0, fun _ => iS0), ?_⟩
    intro k q hq
    match k, hq with
    | 0, hq => cases hq; exact hKn0
    | k + 1, hq => simp [vwCl] at hq
  have hS : va_S (fun a : Nat => s.heap.size ≤ a) s.heap s.heap [] := va_S.rf
  have hK : va_K D vwCl [] s := ⟨hKc, fun k q h => by simp at h⟩
  have hP : va_P D vwCl [] s.heap := fun k q h => by simp at h
  have hD : va_D (fun a : Nat => s.heap.size ≤ a) [] := ⟨fun i j p q h => by simp at h, fun k q h => by simp at h⟩
  have hl := lv_entry ([.ref b]) (n := 24) (Nat.le_of_ble_eq_true rfl)
  rw [lg_entry_eq]
  generalize (lg_sl ([.ref b]) ++ List.replicate (24 - (lg_sl ([.ref b])).length) Slot.unset).toArray = ls at hl ⊢
  have hl : lv_has ls 24 [(0, .ref b)] := hl
  refine va_new (ci := 0) (fs := [.null, .null, .null, .null, .null, .null, .null, .long 0, .int 0, .null]) (C := RX0) (T := TX0) (N := 10) hx hb hts inlX0 tyX0 tyX0_ok hown (hts (.classLink RL 9 RX0) (by decide +kernel)) (hts0 (.instantiable RX0 10) (by decide +kernel)) (hts0 (.initialized RX0) (by decide +kernel)) hK hP hD hS hA rfl (fun j hj => by rcases (show j = 0 ∨ j = 1 ∨ j = 2 ∨ j = 3 ∨ j = 4 ∨ j = 5 ∨ j = 6 ∨ j = 7 ∨ j = 8 ∨ j = 9 by omega) with rfl | rfl | rfl | rfl | rfl | rfl | rfl | rfl | rfl | rfl <;> rfl) (Nat.le_of_ble_eq_true rfl) (Nat.le_of_ble_eq_true rfl) dL_law_0 (fun h0 H hP hD hS => ?_)
  have hP : va_P D vwCl (wxF h0) H := hP
  have hD : va_D (fun a : Nat => s.heap.size ≤ a) (wxF h0) := hD
  refine lv_dup hx hb dL_law_3 rfl ?_
  have hFc := va_free (wc := wxF h0) hD hS hA [0] rfl
  have hDc : va_D _ (wxF h0) := hD.sub [0] (by decide) rfl
  have hPc : va_P D vwCl (wxF h0) H := hP.sub [0] rfl
  refine va_callv (va_runI (As := []) (rest := [.ref h0]) ⟨hx, hb, hml, hown, hts⟩ (c_X0_init l D h0 H.size (k_D_tt hDc)) (cwI 0 hts gL_law_X0_init rfl rfl rfl (hts0 (.initialized RX0) (by decide +kernel)) (hts (.methodLink RL 29 yX0_init) (by decide +kernel)) (hts (.instanceMethod yX0_init) (by decide +kernel)) rfl (by decide +kernel) ⟨Nat.le_of_ble_eq_true rfl, Nat.le_of_ble_eq_true rfl⟩) ⟨k_P_bl (fun a U g mk z => ⟨z.1, z.2.1, va_K.moved (u := U) (U := U.calling g mk a) (Vm.Alike.refl U.vm) z.2.2⟩), fun U hU hW => ⟨rfl, by rw [hU], by rw [hU]; exact hPc, va_K.moved hW.alike (hK.sub [] rfl)⟩⟩ rfl rfl hl.1 rfl (lv_room (Nat.le_of_ble_eq_true rfl)) dL_law_4 ⟨Nat.le_of_ble_eq_true rfl, Nat.le_of_ble_eq_true rfl⟩) hS (fun a _ z => hFc a z) hFc (fun u t H1 locs ht hvm hw hB hz1 hk1 hS => ?_)
  obtain ⟨cI, q⟩ := u
  obtain ⟨hP1, hK1, hD1⟩ := hB
  rw [ht] at hP1
  have hK1 := va_K.moved hvm.symm hK1
  have hw : q 0 = h0 := hw
  subst hw
  have hP1 : va_P D vwCl (wx cI q z0 (fa_fill (fun _ => nI 1) z0 64) (fa_fill (fun _ => -1) z0 32) z0 z0 z0 z0 0 (nI 0) z0) H1 := hP1
  have hD1 : va_D _ (wx cI q z0 (fa_fill (fun _ => nI 1) z0 64) (fa_fill (fun _ => -1) z0 32) z0 z0 z0 z0 0 (nI 0) z0) := hD1
  obtain ⟨hP, hD⟩ := va_join (wr := []) (w1 := wx cI q z0 (fa_fill (fun _ => nI 1) z0 64) (fa_fill (fun _ => -1) z0 32) z0 z0 z0 z0 0 (nI 0) z0) hP hD [0] [] rfl rfl (by decide) (by decide) hk1 hFc hP1 hD1
  have hK := hK1
  generalize H1 = H at hP hS ⊢
  have hP : va_P D vwCl (wx cI q z0 (fa_fill (fun _ => nI 1) z0 64) (fa_fill (fun _ => -1) z0 32) z0 z0 z0 z0 0 (nI 0) z0) H := hP
  have hD : va_D (fun a : Nat => s.heap.size ≤ a) (wx cI q z0 (fa_fill (fun _ => nI 1) z0 64) (fa_fill (fun _ => -1) z0 32) z0 z0 z0 z0 0 (nI 0) z0) := hD
  refine lv_astore_n (lv' := [(1, .ref (q 0)), (0, .ref b)]) hx hb dL_law_7 rfl hl (by decide) rfl (fun ls hl => ?_)
  refine lv_bipush (v := nI 32) hx hb dL_law_8 (by decide) ?_
  refine n_newa (N' := 32) hx hb (hts (.arrayClass .int) (by decide +kernel)) hK 0 rfl hP hD hS hA (by decide) (Nat.le_of_ble_eq_true rfl) (Nat.le_of_ble_eq_true rfl) (Nat.le_of_ble_eq_true rfl) dL_law_10 (fun a1 H hP hD hS => ?_)
  refine lv_astore_n (lv' := [(2, .ref a1), (1, .ref (q 0)), (0, .ref b)]) hx hb dL_law_12 rfl hl (by decide) rfl (fun ls hl => ?_)
  refine lv_bipush (v := nI 32) hx hb dL_law_13 (by decide) ?_
  refine n_newa (N' := 32) hx hb (hts (.arrayClass .int) (by decide +kernel)) hK 0 rfl hP hD hS hA (by decide) (Nat.le_of_ble_eq_true rfl) (Nat.le_of_ble_eq_true rfl) (Nat.le_of_ble_eq_true rfl) dL_law_15 (fun a2 H hP hD hS => ?_)
  have hP : va_P D vwCl (wl cI q a1 a2 z0 (fa_fill (fun _ => nI 1) z0 64) (fa_fill (fun _ => -1) z0 32) z0 z0 z0 z0 0 (nI 0) z0 z0 z0) H := hP
  have hD : va_D (fun a : Nat => s.heap.size ≤ a) (wl cI q a1 a2 z0 (fa_fill (fun _ => nI 1) z0 64) (fa_fill (fun _ => -1) z0 32) z0 z0 z0 z0 0 (nI 0) z0 z0 z0) := hD
  refine W.widen (k := 96) (n := 1076) (Nat.le_of_ble_eq_true rfl) (Nat.le_of_ble_eq_true rfl) ?_
  refine lv_astore_n (lv' := [(3, .ref a2), (2, .ref a1), (1, .ref (q 0)), (0, .ref b)]) hx hb dL_law_17 rfl hl (by decide) rfl (fun ls hl => ?_)
  refine lv_lconst (v := 0) hx hb dL_law_18 (by decide) ?_
  refine lv_lstore (lv' := [(4, .long 0), (3, .ref a2), (2, .ref a1), (1, .ref (q 0)), (0, .ref b)]) hx hb dL_law_19 hl (by decide) rfl (fun ls hl => ?_)
  refine lv_iconst (v := nI 0) hx hb dL_law_21 (by decide) ?_
  refine lv_istore (lv' := [(6, .int (nI 0)), (4, .long 0), (3, .ref a2), (2, .ref a1), (1, .ref (q 0)), (0, .ref b)]) hx hb dL_law_22 hl (by decide) rfl (fun ls hl => ?_)
  refine W.loopH (fun i H locs ls => ∃ (lq1 : Nat → Int32), (∀ v, v < i → lq1 v = -1) ∧ va_P D vwCl (wl cI q a1 a2 z0 (fa_fill (fun _ => nI 1) z0 64) (fa_fill (fun _ => -1) z0 32) z0 z0 z0 z0 0 (nI 0) z0 z0 lq1) H ∧ va_D (fun a : Nat => s.heap.size ≤ a) (wl cI q a1 a2 z0 (fa_fill (fun _ => nI 1) z0 64) (fa_fill (fun _ => -1) z0 32) z0 z0 z0 z0 0 (nI 0) z0 z0 lq1) ∧ va_S (fun a : Nat => s.heap.size ≤ a) s.heap H locs ∧ lv_has ls 24 [(0, .ref b), (1, .ref (q 0)), (2, .ref a1), (3, .ref a2), (4, .long 0), (6, .int (nI i))]) (32) (0) (by omega) ⟨z0, fun v hv => absurd hv (Nat.not_lt_zero _), hP, hD, hS, lv_sub hl [5, 4, 3, 2, 1, 0] rfl⟩ ?_
  intro i H locs ls hi_24 hI_24 ih_24
  obtain ⟨lq1, hf0_24, hP, hD, hS, hl⟩ := hI_24
  refine lv_iload hx hb dL_law_24 (lv_at hl 5 rfl) ?_
  refine lv_bipush (v := nI 32) hx hb dL_law_26 (by decide) ?_
  refine n_icmp_ge (tgt := 42) hx hb dL_law_28 (by decide) (by omega) (by omega) (fun c_28 => ?_) (fun c_28 => ?_)
  · refine lv_iconst (v := nI 0) hx hb dL_law_42 (by decide) ?_
    refine lv_istore (lv' := [(6, .int (nI 0)), (0, .ref b), (1, .ref (q 0)), (2, .ref a1), (3, .ref a2), (4, .long 0)]) hx hb dL_law_43 hl (by decide) rfl (fun ls hl => ?_)
    have hlq : ∀ v, v < 32 → lq1 v = -1 := fun v hv => hf0_24 v (by omega)
    exact law_loop (co := 0) ⟨C0, hK, hL⟩ (lqI_mk (lqR_0 hlq) hP hD hS) (lv_sub hl [1, 2, 3, 4, 5, 0] rfl)
  · refine lv_aload_n hx hb dL_law_31 rfl (lv_at hl 3 rfl) ?_
    refine lv_iload hx hb dL_law_32 (lv_at hl 5 rfl) ?_
    refine lv_iconst (v := (-1)) hx hb dL_law_34 (by decide) ?_
    refine n_iast hx hb hK hP hD hS 10 0 rfl rfl (k := i) (by omega) (Nat.le_of_ble_eq_true rfl) dL_law_35 (fun H locs hP hD hS => ?_)
    have hP : va_P D vwCl (wl cI q a1 a2 z0 (fa_fill (fun _ => nI 1) z0 64) (fa_fill (fun _ => -1) z0 32) z0 z0 z0 z0 0 (nI 0) z0 z0 (upd lq1 i (-1))) H := hP
    have hD : va_D (fun a : Nat => s.heap.size ≤ a) (wl cI q a1 a2 z0 (fa_fill (fun _ => nI 1) z0 64) (fa_fill (fun _ => -1) z0 32) z0 z0 z0 z0 0 (nI 0) z0 z0 (upd lq1 i (-1))) := hD
    refine lv_iinc (v := nI (i + 1)) (lv' := [(6, .int (nI (i + 1))), (0, .ref b), (1, .ref (q 0)), (2, .ref a1), (3, .ref a2), (4, .long 0)]) hx hb dL_law_36 hl (k := 5) rfl (nI_inc _) (by decide) rfl (fun ls hl => ?_)
    refine lv_goto (tgt := 24) hx hb dL_law_39 (by decide) ?_
    exact ih_24 _ _ _ (by omega) ⟨upd lq1 i (-1), v_upd hf0_24, hP, hD, hS, lv_sub hl [1, 2, 3, 4, 5, 0] rfl⟩
end
section
-- ===== YOUR PART ENDS =====
set_option maxHeartbeats 4000000 in
theorem lw_walk (l : Launch) (hflags : l.flags = flags0) (b : Addr) (xs : List Int32) : MetFree l x (headSpec (Jvm.Cond.code x code maxLocals ret :: tables_1) room_1) (lw_P b xs) (fun _ _ _ _ _ => True) lw_Q := by
  refine MetFree.of_bodyS (code := code) (maxLocals := maxLocals) (ret := ret) (by decide) ?_ ?_
  · intro args s m h hn
    obtain ⟨meth, c, h1, h2, h3, h4, h5, h6, -, -⟩ := Cond.code_spec hn (atoms_spec (ws := Jvm.Cond.code x code maxLocals ret :: tables_1) h _ List.mem_cons_self)
    exact ⟨meth, c, h1, h2, h3, h4, h5, h6⟩
  · intro p e s m args below meth c s₁ B hml0 hP _
    obtain ⟨rfl, hx, hbd, hgv⟩ := hP
    obtain ⟨scr, harrAt, hlist, hof, hsmall⟩ := hx
    obtain ⟨hcb, hkn, -, -⟩ := State.arrayAt?_spec harrAt
    have hown : s.vm.findClass R_law = some m.cls := findClass_of_methodNamed B.named
    have hts0 : ∀ c ∈ (Jvm.Cond.code x code maxLocals ret :: tables_1), c.before #[Value.ref b] s = true := atoms_spec (ws := Jvm.Cond.code x code maxLocals ret :: tables_1) B.pre
    have hts : ∀ w ∈ lw_tbl, w.before #[Value.ref b] s = true := k2_hts_sels lw_privs (fun w hw => hts0 w (List.mem_cons_of_mem _ hw)) lw_privs_ok
    have hml : c.maxLocals = 24 := B.maxLocals_eq (hts0 _ List.mem_cons_self)
    have X₀ : Stand p l e room_1 s m #[Value.ref b] below meth c s₁ [] 0 0 := Stand.of_body B
    have hh0 : s₁.heap = s.heap := by rw [B.state]; rfl
    have hsz : scr.slots.size = xs.length := by rw [← Array.length_toList, hlist, List.length_map]
    have hval : ∀ j : Nat, j < xs.length → scr.slots[j]? = some (.int (xs.getD j 0)) := fun j hj => by
      rw [← Array.getElem?_toList, hlist]
      simp [hj]
    have hbl : b < s.heap.size := (Array.getElem?_eq_some_iff.mp hcb).1
    have hX : va_X b xs.length (fun j => xs.getD j 0) s s.heap := ⟨scr, hcb, hof, hkn, hsz, hval⟩
    have K : W p l e room_1 s m #[Value.ref b] below meth c s₁.heap [] 0 0 (lw_Z below #[Value.ref b] s) (entryFrame m ([Value.ref b] : List Value).toArray 24) := by
      rw [hh0]
      exact whole_start l hflags hbd ⟨B.exec, B.bytes, B.returns, hml, hown, hts, hX, hbl, B.notSynchronized, hgv⟩
    obtain ⟨t, a1, o, b1, b2, b3⟩ := K s₁ rfl X₀
    exact ⟨t, o, a1, b1, b2, b3⟩
theorem lw_pre_spec {args : Array Value} {s : State} (h : (Jvm.Cond.and given_1 narrow_1).before args s = true) (hr : rest_1_c.before args s = true) : ∃ (b : Addr) (xs : List Int32), lw_P b xs args s := by
  have hs := flat_of_before _ h
  have hq := flat_of_before _ hr
  have hc : (Cond.count 1).before args s = true := hs _ (by decide +kernel)
  have harr : (Cond.arrayOf (.arg 0) .int).before args s = true := hs _ (by decide +kernel)
  have hle : (Cond.le (.length (.arg 0)) (.int 260)).before args s = true := hs _ (by decide +kernel)
  have hlen : (Cond.isInt (.length (.arg 0))).before args s = true := hq _ (by decide +kernel)
  have hall : (Cond.all (.arg 0) (.isInt (.elem (.arg 0) (.index 0)))).before args s = true := hq _ (by decide +kernel)
  obtain ⟨b, xs, hb, hx⟩ := State.ints_of_pre rfl harr hlen hall
  have hsm : xs.length < 2 ^ 31 := hx.choose_spec.2.2.2
  have hev : (Term.length (.arg 0)).eval args s none [] s = some (.int xs.length.toInt32) := hx.length_eval hb
  have hv := Cond.le_ints hev (show (Term.int 260).eval args s none [] s = some (.int 260) from rfl)
  have hd : xs.length.toInt32 ≤ 260 := by
    simpa [Cond.before, Cond.holds, hv] using hle
  have hN : xs.length ≤ 260 := (Int32.ofNat_le_ofNat hsm (by decide)).mp (show Int32.ofNat xs.length ≤ Int32.ofNat 260 from hd)
  exact ⟨b, xs, Cond.one_arg hc (show args[0]? = some (.ref b) from hb), hx, hN, h⟩
theorem lw_comes (l : Launch) (hflags : l.flags = flags0) : Comes l x (Jvm.Cond.code x code maxLocals ret :: tables_1) room_1 (fun tb e args s => Calls_1 tb e args s ∧ rest_1 tb e args s ∧ Pre_1 tb e args s)
    (fun _ _ args s o t => lw_Q args s o t) := by
  intro p e ha hc hk s m args below hf hfit hheap happ hpre
  obtain ⟨b, xs, hP⟩ := lw_pre_spec hpre.2.2 hpre.2.1
  obtain ⟨k, o, h1, h2, h3, hQ⟩ := lw_walk l hflags b xs p e ha hc hk s m args below hf ((Spec.applies_iff_loose hf).mp happ).1 hP trivial
  exact ⟨k, o, h1, h2, h3, hQ⟩
theorem lw_frame {s t : State} {o : Outcome} {args : Array Value} (h : Framed s o t [] 96 1076) :
    Framed s o t (fieldLocs frame_1_writes args s ++ arrayLocs frame_1_arrays args s ++ staticLocs frame_1_statics s) 96 1076 := h
theorem lw_limb (L : Cond) (hL : ∀ (args : Array Value) (s t : State), L.after args s (.returned (some (.int 1))) t = true) :
    ArmFor flags0 classFile x code maxLocals ret World_1 tables_1 room_1 Calls_1 rest_1 Pre_1
      (fun tb e a s o t => postC L tb e a s o t ∧ Framed s o t (fieldLocs frame_1_writes a s ++ arrayLocs frame_1_arrays a s ++ staticLocs frame_1_statics s) 96 1076) := by
  intro l hflags _ _ p e ha hc hk s m args below hf hfit hheap happ hpre
  obtain ⟨k, o, h1, h2, h3, rfl, hF⟩ := lw_comes l hflags p e ha hc hk s m args below hf hfit hheap happ hpre
  exact ⟨k, _, h1, h2, h3, hL args s _, lw_frame hF⟩
theorem i_vc : Claimed_1_1 ∧ Claimed_1_2 := ⟨lw_limb limb_1_1 (fun args s t => by simp [limb_1_1, Cond.after, Cond.holds, Cond.value]), lw_limb limb_1_2 (fun args s t => Cond.after_iff.mpr (by
  first | (rw [show limb_1_2 = Cond.eq .result (.int 1) from rfl, Cond.eq_ints (x := 1) (y := 1) rfl rfl]; simp; done) | (simp [limb_1_2, Cond.value, Term.eval]; done)))⟩
end
