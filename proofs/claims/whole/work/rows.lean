section
-- ===== PART A: goes FIRST, ahead of the names: the tables' words, and 'selects' of the private methods out of them =====
/-- a private method of a class that the tables say can be made, by its rows of tables_1 -/
def lw_okq (q : MethodName × Nat) : Prop := (q.1.cls ≠ "java/lang/invoke/MethodHandle" ∧ q.1.cls ≠ "java/lang/invoke/VarHandle") ∧ Cond.instantiable q.1.cls q.2 ∈ tables_1 ∧ Cond.privateMethod q.1 ∈ tables_1 ∧ Cond.instanceMethod q.1 ∈ tables_1
theorem lw_p0 : lw_okq (⟨"java/lang/Throwable", "fillInStackTrace", "(I)Ljava/lang/Throwable;"⟩, 6) := ⟨⟨by decide +kernel, by decide +kernel⟩, List.mem_of_getElem? (i := 110) (by decide +kernel), List.mem_of_getElem? (i := 108) (by decide +kernel), List.mem_of_getElem? (i := 109) (by decide +kernel)⟩
theorem lw_p1 : lw_okq (⟨"SignRail", "forgetWalks", "()V"⟩, 10) := ⟨⟨by decide +kernel, by decide +kernel⟩, List.mem_of_getElem? (i := 13) (by decide +kernel), List.mem_of_getElem? (i := 175) (by decide +kernel), List.mem_of_getElem? (i := 176) (by decide +kernel)⟩
theorem lw_p2 : lw_okq (⟨"SignRail", "packedWidth", "(I)I"⟩, 10) := ⟨⟨by decide +kernel, by decide +kernel⟩, List.mem_of_getElem? (i := 13) (by decide +kernel), List.mem_of_getElem? (i := 259) (by decide +kernel), List.mem_of_getElem? (i := 260) (by decide +kernel)⟩
theorem lw_p3 : lw_okq (⟨"SignRail", "plateFor", "(I)I"⟩, 10) := ⟨⟨by decide +kernel, by decide +kernel⟩, List.mem_of_getElem? (i := 13) (by decide +kernel), List.mem_of_getElem? (i := 278) (by decide +kernel), List.mem_of_getElem? (i := 279) (by decide +kernel)⟩
theorem lw_p4 : lw_okq (⟨"SignRail", "engrave", "(II)V"⟩, 10) := ⟨⟨by decide +kernel, by decide +kernel⟩, List.mem_of_getElem? (i := 13) (by decide +kernel), List.mem_of_getElem? (i := 298) (by decide +kernel), List.mem_of_getElem? (i := 299) (by decide +kernel)⟩
theorem lw_p5 : lw_okq (⟨"SignRail", "isOutdated", "(I)Z"⟩, 10) := ⟨⟨by decide +kernel, by decide +kernel⟩, List.mem_of_getElem? (i := 13) (by decide +kernel), List.mem_of_getElem? (i := 316) (by decide +kernel), List.mem_of_getElem? (i := 317) (by decide +kernel)⟩
theorem lw_p6 : lw_okq (⟨"SignRail", "requirePlatesForOutdated", "()V"⟩, 10) := ⟨⟨by decide +kernel, by decide +kernel⟩, List.mem_of_getElem? (i := 13) (by decide +kernel), List.mem_of_getElem? (i := 327) (by decide +kernel), List.mem_of_getElem? (i := 328) (by decide +kernel)⟩
theorem lw_p7 : lw_okq (⟨"SignRail", "readText", "(I)I"⟩, 10) := ⟨⟨by decide +kernel, by decide +kernel⟩, List.mem_of_getElem? (i := 13) (by decide +kernel), List.mem_of_getElem? (i := 338) (by decide +kernel), List.mem_of_getElem? (i := 339) (by decide +kernel)⟩
theorem lw_p8 : lw_okq (⟨"SignRail", "readGlyph", "(II)I"⟩, 10) := ⟨⟨by decide +kernel, by decide +kernel⟩, List.mem_of_getElem? (i := 13) (by decide +kernel), List.mem_of_getElem? (i := 342) (by decide +kernel), List.mem_of_getElem? (i := 343) (by decide +kernel)⟩
theorem lw_p9 : lw_okq (⟨"SignRail", "nearestGlyph", "(II)I"⟩, 10) := ⟨⟨by decide +kernel, by decide +kernel⟩, List.mem_of_getElem? (i := 13) (by decide +kernel), List.mem_of_getElem? (i := 346) (by decide +kernel), List.mem_of_getElem? (i := 347) (by decide +kernel)⟩
theorem lw_p10 : lw_okq (⟨"SignRail", "stepsToArrive", "(II)I"⟩, 10) := ⟨⟨by decide +kernel, by decide +kernel⟩, List.mem_of_getElem? (i := 13) (by decide +kernel), List.mem_of_getElem? (i := 360) (by decide +kernel), List.mem_of_getElem? (i := 361) (by decide +kernel)⟩
theorem lw_p11 : lw_okq (⟨"SignRail", "nextWay", "(III)I"⟩, 10) := ⟨⟨by decide +kernel, by decide +kernel⟩, List.mem_of_getElem? (i := 13) (by decide +kernel), List.mem_of_getElem? (i := 364) (by decide +kernel), List.mem_of_getElem? (i := 365) (by decide +kernel)⟩
theorem lw_p12 : lw_okq (⟨"SignRail", "isReadAs", "(II)Z"⟩, 10) := ⟨⟨by decide +kernel, by decide +kernel⟩, List.mem_of_getElem? (i := 13) (by decide +kernel), List.mem_of_getElem? (i := 368) (by decide +kernel), List.mem_of_getElem? (i := 369) (by decide +kernel)⟩
theorem lw_p13 : lw_okq (⟨"SignRail", "placeReached", "(III)I"⟩, 10) := ⟨⟨by decide +kernel, by decide +kernel⟩, List.mem_of_getElem? (i := 13) (by decide +kernel), List.mem_of_getElem? (i := 387) (by decide +kernel), List.mem_of_getElem? (i := 388) (by decide +kernel)⟩
theorem lw_p14 : lw_okq (⟨"SignRailModel", "fails", "(I)I"⟩, 15) := ⟨⟨by decide +kernel, by decide +kernel⟩, List.mem_of_getElem? (i := 391) (by decide +kernel), List.mem_of_getElem? (i := 458) (by decide +kernel), List.mem_of_getElem? (i := 459) (by decide +kernel)⟩
theorem lw_p15 : lw_okq (⟨"SignRailModel", "widthOf", "(I)I"⟩, 15) := ⟨⟨by decide +kernel, by decide +kernel⟩, List.mem_of_getElem? (i := 391) (by decide +kernel), List.mem_of_getElem? (i := 473) (by decide +kernel), List.mem_of_getElem? (i := 474) (by decide +kernel)⟩
def lw_privs_1 : List (MethodName × Nat) := [(⟨"java/lang/Throwable", "fillInStackTrace", "(I)Ljava/lang/Throwable;"⟩, 6), (⟨"SignRail", "forgetWalks", "()V"⟩, 10), (⟨"SignRail", "packedWidth", "(I)I"⟩, 10), (⟨"SignRail", "plateFor", "(I)I"⟩, 10), (⟨"SignRail", "engrave", "(II)V"⟩, 10), (⟨"SignRail", "isOutdated", "(I)Z"⟩, 10), (⟨"SignRail", "requirePlatesForOutdated", "()V"⟩, 10), (⟨"SignRail", "readText", "(I)I"⟩, 10), (⟨"SignRail", "readGlyph", "(II)I"⟩, 10), (⟨"SignRail", "nearestGlyph", "(II)I"⟩, 10), (⟨"SignRail", "stepsToArrive", "(II)I"⟩, 10), (⟨"SignRail", "nextWay", "(III)I"⟩, 10), (⟨"SignRail", "isReadAs", "(II)Z"⟩, 10), (⟨"SignRail", "placeReached", "(III)I"⟩, 10), (⟨"SignRailModel", "fails", "(I)I"⟩, 15), (⟨"SignRailModel", "widthOf", "(I)I"⟩, 15)]
theorem lw_r1 : ∀ q ∈ lw_privs_1, lw_okq q := List.forall_mem_cons.mpr ⟨lw_p0, List.forall_mem_cons.mpr ⟨lw_p1, List.forall_mem_cons.mpr ⟨lw_p2, List.forall_mem_cons.mpr ⟨lw_p3, List.forall_mem_cons.mpr ⟨lw_p4, List.forall_mem_cons.mpr ⟨lw_p5, List.forall_mem_cons.mpr ⟨lw_p6, List.forall_mem_cons.mpr ⟨lw_p7, List.forall_mem_cons.mpr ⟨lw_p8, List.forall_mem_cons.mpr ⟨lw_p9, List.forall_mem_cons.mpr ⟨lw_p10, List.forall_mem_cons.mpr ⟨lw_p11, List.forall_mem_cons.mpr ⟨lw_p12, List.forall_mem_cons.mpr ⟨lw_p13, List.forall_mem_cons.mpr ⟨lw_p14, List.forall_mem_cons.mpr ⟨lw_p15, fun _ h => absurd h List.not_mem_nil⟩⟩⟩⟩⟩⟩⟩⟩⟩⟩⟩⟩⟩⟩⟩⟩
theorem lw_p16 : lw_okq (⟨"SignRailModel", "widthOfText", "(II)I"⟩, 15) := ⟨⟨by decide +kernel, by decide +kernel⟩, List.mem_of_getElem? (i := 391) (by decide +kernel), List.mem_of_getElem? (i := 505) (by decide +kernel), List.mem_of_getElem? (i := 506) (by decide +kernel)⟩
theorem lw_p17 : lw_okq (⟨"SignRailModel", "plate", "(II)I"⟩, 15) := ⟨⟨by decide +kernel, by decide +kernel⟩, List.mem_of_getElem? (i := 391) (by decide +kernel), List.mem_of_getElem? (i := 516) (by decide +kernel), List.mem_of_getElem? (i := 517) (by decide +kernel)⟩
theorem lw_p18 : lw_okq (⟨"SignRailModel", "cuts", "(I)V"⟩, 15) := ⟨⟨by decide +kernel, by decide +kernel⟩, List.mem_of_getElem? (i := 391) (by decide +kernel), List.mem_of_getElem? (i := 520) (by decide +kernel), List.mem_of_getElem? (i := 521) (by decide +kernel)⟩
theorem lw_p19 : lw_okq (⟨"SignRailModel", "old", "(I)Z"⟩, 15) := ⟨⟨by decide +kernel, by decide +kernel⟩, List.mem_of_getElem? (i := 391) (by decide +kernel), List.mem_of_getElem? (i := 532) (by decide +kernel), List.mem_of_getElem? (i := 533) (by decide +kernel)⟩
theorem lw_p20 : lw_okq (⟨"SignRailModel", "reads", "(I)I"⟩, 15) := ⟨⟨by decide +kernel, by decide +kernel⟩, List.mem_of_getElem? (i := 391) (by decide +kernel), List.mem_of_getElem? (i := 544) (by decide +kernel), List.mem_of_getElem? (i := 545) (by decide +kernel)⟩
theorem lw_p21 : lw_okq (⟨"SignRailModel", "nearest", "(II)I"⟩, 15) := ⟨⟨by decide +kernel, by decide +kernel⟩, List.mem_of_getElem? (i := 391) (by decide +kernel), List.mem_of_getElem? (i := 548) (by decide +kernel), List.mem_of_getElem? (i := 549) (by decide +kernel)⟩
theorem lw_p22 : lw_okq (⟨"SignRailModel", "follows", "(IIII)V"⟩, 15) := ⟨⟨by decide +kernel, by decide +kernel⟩, List.mem_of_getElem? (i := 391) (by decide +kernel), List.mem_of_getElem? (i := 560) (by decide +kernel), List.mem_of_getElem? (i := 561) (by decide +kernel)⟩
theorem lw_p23 : lw_okq (⟨"SignRailModel", "takes", "(III)I"⟩, 15) := ⟨⟨by decide +kernel, by decide +kernel⟩, List.mem_of_getElem? (i := 391) (by decide +kernel), List.mem_of_getElem? (i := 564) (by decide +kernel), List.mem_of_getElem? (i := 565) (by decide +kernel)⟩
def lw_privs_2 : List (MethodName × Nat) := [(⟨"SignRailModel", "widthOfText", "(II)I"⟩, 15), (⟨"SignRailModel", "plate", "(II)I"⟩, 15), (⟨"SignRailModel", "cuts", "(I)V"⟩, 15), (⟨"SignRailModel", "old", "(I)Z"⟩, 15), (⟨"SignRailModel", "reads", "(I)I"⟩, 15), (⟨"SignRailModel", "nearest", "(II)I"⟩, 15), (⟨"SignRailModel", "follows", "(IIII)V"⟩, 15), (⟨"SignRailModel", "takes", "(III)I"⟩, 15)]
theorem lw_r2 : ∀ q ∈ lw_privs_2, lw_okq q := List.forall_mem_cons.mpr ⟨lw_p16, List.forall_mem_cons.mpr ⟨lw_p17, List.forall_mem_cons.mpr ⟨lw_p18, List.forall_mem_cons.mpr ⟨lw_p19, List.forall_mem_cons.mpr ⟨lw_p20, List.forall_mem_cons.mpr ⟨lw_p21, List.forall_mem_cons.mpr ⟨lw_p22, List.forall_mem_cons.mpr ⟨lw_p23, fun _ h => absurd h List.not_mem_nil⟩⟩⟩⟩⟩⟩⟩⟩
def lw_privs : List (MethodName × Nat) := lw_privs_1 ++ (lw_privs_2)
def lw_tbl : List Cond := k2_sels lw_privs ++ tables_1
theorem lw_privs_ok : ∀ q ∈ lw_privs, lw_okq q := by
  show ∀ q ∈ lw_privs_1 ++ (lw_privs_2), lw_okq q
  exact List.forall_mem_append.mpr ⟨lw_r1, lw_r2⟩
end
section
/-! ===== BEGIN words of one list among another's, by their places ===== -/
theorem goodIn_r {big : List Cond} (ws : List Cond) (ps : List Nat) (hp : ws = ps.filterMap (fun i => big[i]?)) (h : ws.all goodWord = true) : GoodIn big ws := by
  intro w hw
  have h1 := List.all_eq_true.mp h w hw
  rw [hp] at hw
  obtain ⟨i, -, hi⟩ := List.mem_filterMap.mp hw
  have hm : w ∈ big := by first | exact List.mem_of_getElem? hi | exact List.getElem?_mem hi
  exact ⟨hm, good_of_word h1⟩
theorem goodIn_app {big a b : List Cond} (ha : GoodIn big a) (hb : GoodIn big b) : GoodIn big (a ++ b) := fun w h => (List.mem_append.mp h).elim (ha w) (hb w)
theorem goodIn_ca {big a b : List Cond} {c : Cond} (ha : GoodIn big (c :: a)) (hb : GoodIn big b) : GoodIn big (c :: (a ++ b)) := fun w h => (List.mem_cons.mp h).elim (fun e => ha w (List.mem_cons.mpr (Or.inl e))) (fun h => (List.mem_append.mp h).elim (fun h => ha w (List.mem_cons.mpr (Or.inr h))) (hb w))
theorem goodIn_sub {big ws : List Cond} (hm : ∀ w ∈ ws, w ∈ big) (h : ws.all goodWord = true) : GoodIn big ws := fun w hw => ⟨hm w hw, good_of_word (List.all_eq_true.mp h w hw)⟩
/-! ===== END ===== -/

/-! ===== BEGIN exceptions that leave a method, and their catching by the caller (launches without stack traces) ===== -/
section VXA
/-! The laws vx_back, vx_callV, vx_callS, vx_callSW, vx_throw0, vx_throwS follow proofs of the library, with one case more: JvmDerived/Free/Laws.lean (Back.of_free), Shelf42/LK1.lean (callV, callS), Shelf/KitTraced.lean (throwNew0V, throwNewS). -/
/-- where a method has thrown q: the class by its name, the cell, what was written, the world -/
def vx_T (XC : String → State → State → Prop) (st : State) (q : Addr) (t : State) (mc ms : Nat) (free : Addr → Prop) : Prop :=
  ∃ (E : String) (ce : Cell) (L : List Loc), XC E st t ∧ t.heap[q]? = some ce ∧ ce.vm = .none ∧ st.vm.findClass E = some ce.cls ∧ st.WarmedH t.vm ∧ st.sameButNew ({ t with vm := st.vm } : State) L mc ms ∧ ∀ z ∈ L, free z.base
def vx_Q (Qc : Array Value → State → Outcome → State → Prop) (XC : String → State → State → Prop) (mc ms : Nat) (free : Addr → Prop) : Array Value → State → Outcome → State → Prop := fun a st o t =>
  (Qc a st o t ∧ ∃ L, FrameEnd st o t L mc ms ∧ ∀ q ∈ L, free q.base) ∨ ∃ q, o = .threw q ∧ vx_T XC st q t mc ms free
/-- a callee that returns or throws -/
def vx_Met (l : Launch) (y : MethodName) (ws : List Cond) (rm : Room) (Pc : Array Value → State → Prop) (Qc : Array Value → State → Outcome → State → Prop) (XC : String → State → State → Prop) (mc ms : Nat) (free : Addr → Prop) : Prop :=
  MetFree l y (headSpec ws rm) Pc (fun _ _ _ _ _ => True) (vx_Q Qc XC mc ms free)
def vx_Post (XC : String → State → State → Prop) (mc ms : Nat) (free : Addr → Prop) : Pt → Array Value → Addr → Pt → Prop := fun A a q B =>
  ∃ (g : JFrame) (mk : MethodId) (t : State) (L : List Loc) (E : String) (ce : Cell), B.U.heap = t.heap ∧ B.U.vm = t.vm ∧ XC E (A.U.calling g mk a) t ∧ t.heap[q]? = some ce ∧ ce.vm = .none ∧ A.U.vm.findClass E = some ce.cls ∧ B.locs = A.locs ++ L ∧ (∀ z ∈ L, free z.base) ∧ B.cells = A.cells + mc ∧ B.slots = A.slots + ms
def vx_Back (l : Launch) (R : Room) (p : Program) (e : Env) (below : List Frame) (s : State) (sargs : Array Value) (y : MethodName) (len W9 : Nat)
    (Pre : Pt → Array Value → Prop) (Post : Pt → Array Value → Option Value → Pt → Prop) (PostX : Pt → Array Value → Addr → Pt → Prop) : Prop :=
  ∀ (m : MethodId) (meth : Method) (c : Code) (A : Pt) (g : JFrame) (ig : Instr) (mk : MethodId) (a : Array Value),
    Stand p l e R s m sargs below meth c A.U A.locs A.cells A.slots → g.method = m → g.locals.size = c.maxLocals → decode c.code g.pc = .ok (ig, len) →
    2 * g.monitorRoom + (g.stack.map fun v => v.category).sum ≤ W9 → A.U.methodNamed? y = some mk → Pre A a →
    (∃ (v : Option Value) (B : Pt), Stand p l e R s m sargs below meth c B.U B.locs B.cells B.slots ∧ Post A a v B ∧
      Steps p.tables e below (doInvoke e (A.U.setTop g) [] mk a).1 (B.U.setTop { g with pc := g.pc + len, stack := v.toList ++ g.stack })) ∨
    (∃ (q : Addr) (B : Pt), Stand p l e R s m sargs below meth c B.U B.locs B.cells B.slots ∧ PostX A a q B ∧
      Steps p.tables e below (doInvoke e (A.U.setTop g) [] mk a).1 ((B.U.setTop g).pushFrame (.throwing q)))
section Payer
variable {l : Launch} {R : Room} {p : Program} {e : Env} {below : List Frame} {s : State} {sargs : Array Value} {y : MethodName} {len W9 : Nat}
theorem vx_back {ws : List Cond} {rm : Room} {Pc : Array Value → State → Prop} {Qc : Array Value → State → Outcome → State → Prop} {XC : String → State → State → Prop} {mc ms : Nat} {free : Addr → Prop} {bytes : ByteArray} {maxL : Nat} {ret : Option FieldType}
    (hM : vx_Met l y ws rm Pc Qc XC mc ms free) (hblind : FrameBlind Pc) (hrc : rm.cells = mc) (hrs : rm.slots = ms)
    (hframes : rm.frames + 1 ≤ R.frames) (hlocals : W9 + (maxL + 11) + rm.locals ≤ R.locals)
    (hws : ∀ w ∈ ws, ∀ a' U, s.WarmedH U.vm → w.before a' U = true) (hcode : Cond.code y bytes maxL ret ∈ ws) (hinit : ∀ a' U, s.WarmedH U.vm → (Cond.initialized y.cls).before a' U = true) :
    vx_Back l R p e below s sargs y len W9 (PreOf R mc ms Pc) (PostOf Qc mc ms free) (vx_Post XC mc ms free) := by
  intro m meth c A g ig mk a X hg hsize hdg hW hn hp
  have h1 : (headSpec ws rm).pre.before a A.U = true := atoms_intro fun w hw => hws w hw _ _ X.warmed
  have h2 : (Cond.code y bytes maxL ret).before a A.U = true := hws _ hcode _ _ X.warmed
  have h3 : (Cond.initialized y.cls).before a A.U = true := hinit _ _ X.warmed
  have h4 : A.cells + (headSpec ws rm).room.cells ≤ R.cells := by rw [show (headSpec ws rm).room.cells = mc from hrc]; exact hp.1
  have h5 : A.slots + (headSpec ws rm).room.slots ≤ R.slots := by rw [show (headSpec ws rm).room.slots = ms from hrs]; exact hp.2.1
  have hPc : Pc a (A.U.calling g mk a) := hblind _ _ _ _ hp.2.2
  obtain ⟨U, Ls, c0, s0⟩ := A
  dsimp only [Pt.U, Pt.locs, Pt.cells, Pt.slots] at h1 h2 h3 h4 h5 X hn hPc ⊢
  obtain ⟨methY, cY, hmY, hcY, -, hlY, -, -, -, -⟩ := Cond.code_spec hn h2
  obtain ⟨kY, hkY, -⟩ := className_of_methodNamed hn
  have hinitY : kY.init = .initialized := Cond.initialized_spec (findClass_of_methodNamed hn) hkY h3
  have h : At U g.method c below := by rw [hg]; exact X.here
  have hlocals9 : W9 + (maxL + 11) + (headSpec ws rm).room.locals ≤ R.locals := hlocals
  have happ : (headSpec ws rm).appliesLoose y e.platform (U.calling g mk a) = true :=
    Spec.appliesLoose_calling (g := g) h hdg hn hkY hinitY
      (X.room_calling (g := g) (R' := (headSpec ws rm).room) hsize hmY hcY hframes (by rw [hlY]; omega) h4 h5) h1
  obtain ⟨mid, hmid⟩ := h.above
  have hfr : (U.setTop g).frames = (.java g :: mid) ++ below := by rw [State.frames_setTop' g h.top, hmid]; rfl
  obtain ⟨o, s₂, hsteps, -, hend, hq⟩ := Steps.callFree hM p X.admits X.cas X.clock (acts := []) hfr happ hPc trivial
  have hq' : vx_Q Qc XC mc ms free a (U.calling g mk a) o s₂ := hq
  rw [State.frames_setTop' g h.top] at hend
  obtain ⟨g₀, hg0⟩ := Option.isSome_iff_exists.mp h.top
  obtain ⟨r, hr⟩ := State.topJava?_eq_some.mp hg0
  have hr' : (({ U with heap := s₂.heap, slotsUsed := s₂.slotsUsed } : State).setVm s₂.vm).frames = .java g₀ :: r := hr
  rcases hq' with ⟨hqc, L, hfe, hL⟩ | ⟨q, rfl, E, ce, L, hx, hce, hcv, hcl, hW₂, hsm, hL⟩
  · obtain ⟨⟨v, rfl⟩, hW₂, e2, q2, q3, q4, q5, q6⟩ := id hfe
    have e3 : s₂ = ({ (U.calling g mk a).setFrames s₂.frames with heap := s₂.heap, slotsUsed := s₂.slotsUsed } : State).setVm s₂.vm := by
      have : s₂ = ({ s₂ with vm := (U.calling g mk a).vm } : State).setVm s₂.vm := rfl
      rw [e2] at this
      exact this
    obtain ⟨c₂, i₂, len₂, hc₂, hd₂, hf₂⟩ := hend
    have hW' : U.WarmedH s₂.vm := hW₂
    have hcc : c₂ = c := by
      have h1 : s₂.code? g.method = U.code? g.method := by
        rw [State.code?_eq, State.code?_eq, hW'.alike.method?]
      exact Option.some.inj (hc₂.symm.trans (h1.trans h.code))
    subst hcc
    have hlen : len₂ = len := by rw [hdg] at hd₂; cases hd₂; rfl
    subst hlen
    have hs₂ : s₂ = (({ U with heap := s₂.heap, slotsUsed := s₂.slotsUsed } : State).setVm s₂.vm).setTop { g with pc := g.pc + len₂, stack := v.toList ++ g.stack } := by
      refine e3.trans ?_
      rw [hf₂, State.calling_eq h.top, State.setFrames_setFrames, State.setTop_of_frames _ hr', hr]
      rfl
    have hsame : U.sameButNew ({ U with heap := s₂.heap, slotsUsed := s₂.slotsUsed } : State) L mc ms := by
      refine ⟨?_, q2, q3, q4, q5, q6⟩
      obtain ⟨t, ht, -⟩ := State.frames_cons hr
      show ({ U with heap := s₂.heap, slotsUsed := s₂.slotsUsed } : State) = { U.setFrames U.frames with heap := s₂.heap, slotsUsed := s₂.slotsUsed }
      rw [State.setFrames_self ht]
    subst hg
    refine Or.inl ⟨v, ⟨(({ U with heap := s₂.heap, slotsUsed := s₂.slotsUsed } : State).setVm s₂.vm), Ls ++ L, c0 + mc, s0 + ms⟩,
      ⟨X.admits, X.cas, X.clock, X.frames, X.room, X.hears, X.method, X.code, (X.here.setHeapUsed s₂.heap s₂.slotsUsed).setVm hW'.alike, X.tail, State.WarmedH.trans X.warmed hW', X.limits, X.bytes, X.same.trans (hsame.setVm s.vm)⟩,
      ⟨g, mk, s₂, L, rfl, rfl, hqc, rfl, hL, rfl, rfl⟩, ?_⟩
    show Steps p.tables e below _ ((({ U with heap := s₂.heap, slotsUsed := s₂.slotsUsed } : State).setVm s₂.vm).setTop { g with pc := g.pc + len₂, stack := v.toList ++ g.stack })
    rw [← hs₂]
    exact hsteps
  · obtain ⟨e2, q2, q3, q4, q5, q6⟩ := id hsm
    have e3 : s₂ = ({ (U.calling g mk a).setFrames s₂.frames with heap := s₂.heap, slotsUsed := s₂.slotsUsed } : State).setVm s₂.vm := by
      have : s₂ = ({ s₂ with vm := (U.calling g mk a).vm } : State).setVm s₂.vm := rfl
      rw [e2] at this
      exact this
    have hf₂ : s₂.frames = .throwing q :: .java g :: U.frames.tail := hend
    have hW' : U.WarmedH s₂.vm := hW₂
    have hs₂ : s₂ = ((({ U with heap := s₂.heap, slotsUsed := s₂.slotsUsed } : State).setVm s₂.vm).setTop g).pushFrame (.throwing q) := by
      refine e3.trans ?_
      rw [hf₂, State.calling_eq h.top, State.setFrames_setFrames, State.pushFrame, State.frames_setTop _ hr', State.setTop_of_frames _ hr', State.setFrames_setFrames, hr]
      rfl
    have hsame : U.sameButNew ({ U with heap := s₂.heap, slotsUsed := s₂.slotsUsed } : State) L mc ms := by
      refine ⟨?_, q2, q3, q4, q5, q6⟩
      obtain ⟨t, ht, -⟩ := State.frames_cons hr
      show ({ U with heap := s₂.heap, slotsUsed := s₂.slotsUsed } : State) = { U.setFrames U.frames with heap := s₂.heap, slotsUsed := s₂.slotsUsed }
      rw [State.setFrames_self ht]
    subst hg
    refine Or.inr ⟨q, ⟨(({ U with heap := s₂.heap, slotsUsed := s₂.slotsUsed } : State).setVm s₂.vm), Ls ++ L, c0 + mc, s0 + ms⟩,
      ⟨X.admits, X.cas, X.clock, X.frames, X.room, X.hears, X.method, X.code, (X.here.setHeapUsed s₂.heap s₂.slotsUsed).setVm hW'.alike, X.tail, State.WarmedH.trans X.warmed hW', X.limits, X.bytes, X.same.trans (hsame.setVm s.vm)⟩,
      ⟨g, mk, s₂, L, E, ce, rfl, rfl, hx, hce, hcv, hcl, rfl, hL, rfl, rfl⟩, ?_⟩
    show Steps p.tables e below _ (((({ U with heap := s₂.heap, slotsUsed := s₂.slotsUsed } : State).setVm s₂.vm).setTop g).pushFrame (.throwing q))
    rw [← hs₂]
    exact hsteps
end Payer
section Calls
variable {p : Program} {l : Launch} {e : Env} {R : Room} {s : State} {m : MethodId} {args : Array Value} {below : List Frame} {meth : Method} {c : Code} {T : State} {locs : List Loc} {cells slots : Nat}
theorem vx_callV (X : Stand p l e R s m args below meth c T locs cells slots) (hexec : p.tables.exec = Jvm.exec) {own C : String} {index : Nat} {y : MethodName} {bytes : ByteArray} {maxL : Nat} {ret : Option FieldType}
    (hown : s.vm.findClass own = some m.cls) (hlink : (Cond.methodLink own index y).before args s = true) (hinst : (Cond.instanceMethod y).before args s = true) (hsel : (Cond.selects C y y).before args s = true)
    (hcode : (Cond.code y bytes maxL ret).before args s = true) (hy : y.cls ≠ "java/lang/invoke/MethodHandle" ∧ y.cls ≠ "java/lang/invoke/VarHandle")
    {W9 : Nat} {Pre : Pt → Array Value → Prop} {Post : Pt → Array Value → Option Value → Pt → Prop} {PostX : Pt → Array Value → Addr → Pt → Prop} (hK : vx_Back l R p e below s args y 3 W9 Pre Post PostX)
    {b : Addr} {cellB : Cell} (hcell : T.heap[b]? = some cellB) (hobj : cellB.vm.isStatics = false) (hcls : s.vm.findClass C = some cellB.cls)
    {g : JFrame} (hg : g.method = m) (hsize : g.locals.size = c.maxLocals) {argsL rest : List Value} (hlen : ∀ sig, parseMethodDescriptor y.desc = some sig → argsL.length = sig.parameters.length)
    (hstack : g.stack = argsL.reverse ++ .ref b :: rest) (hW : 2 * g.monitorRoom + (rest.map fun v => v.category).sum ≤ W9) (hdg : decode c.code g.pc = .ok (.invokevirtual index, 3))
    (hpre : ∀ vm₁, s.WarmedH vm₁ → Pre ⟨T.setVm vm₁, locs, cells, slots⟩ (Value.ref b :: argsL).toArray) :
    (∃ (v : Option Value) (vm₁ : Vm) (B : Pt), s.WarmedH vm₁ ∧ Stand p l e R s m args below meth c B.U B.locs B.cells B.slots ∧ Post ⟨T.setVm vm₁, locs, cells, slots⟩ (Value.ref b :: argsL).toArray v B ∧
      ∀ target, Steps p.tables e below (B.U.setTop { g with pc := g.pc + 3, stack := v.toList ++ rest }) target → Steps p.tables e below (T.setTop g) target) ∨
    (∃ (q : Addr) (vm₁ : Vm) (B : Pt), s.WarmedH vm₁ ∧ Stand p l e R s m args below meth c B.U B.locs B.cells B.slots ∧ PostX ⟨T.setVm vm₁, locs, cells, slots⟩ (Value.ref b :: argsL).toArray q B ∧
      Steps p.tables e below (T.setTop g) ((B.U.setTop { g with stack := rest }).pushFrame (.throwing q))) := by
  obtain ⟨mk, methM, hnamed, hmethM, hstM, habM⟩ := Cond.instanceMethod_spec hinst
  obtain ⟨methM', cM, hmethM', -, -, -, -, -, -, hsigM⟩ := Cond.code_spec hnamed hcode
  cases hmethM.symm.trans hmethM'
  obtain ⟨c2, r2, m2, q1, q2, q3, q4, kP, hkP, hkPi⟩ := Cond.selects_spec hsel
  cases hcls.symm.trans q1
  cases (State.methodFound?_of_named hnamed hy).symm.trans q2
  cases hnamed.symm.trans q3
  have hselP : selectMethod e.platform s.vm cellB.cls mk = .method mk := by rw [Launch.admits_selectMethod X.admits]; exact q4
  obtain ⟨vm₁, X₁, hstep₁⟩ := X.invokevirtual hexec hown hlink hnamed hmethM hstM hkP hkPi hy (a := b) (cell := cellB) hcell
    (fun z h => by rw [h] at hobj; cases hobj) hselP hmethM habM hkP hkPi (g := g) hg (argsL := argsL) (rest := rest) (hlen _ hsigM) hstack hdg
  rcases hK m meth c ⟨T.setVm vm₁, locs, cells, slots⟩ { g with stack := rest } (.invokevirtual index) mk (Value.ref b :: argsL).toArray X₁ hg hsize hdg hW (X₁.named hnamed) (hpre vm₁ X₁.warmed) with ⟨v, B, X', hpost, hsteps⟩ | ⟨q, B, X', hpost, hsteps⟩
  · exact Or.inl ⟨v, vm₁, B, X₁.warmed, X', hpost, fun target h => hstep₁ _ fun acts => by rw [doInvoke_state]; exact hsteps.trans h⟩
  · exact Or.inr ⟨q, vm₁, B, X₁.warmed, X', hpost, hstep₁ _ fun acts => by rw [doInvoke_state]; exact hsteps⟩
theorem vx_callS (X : Stand p l e R s m args below meth c T locs cells slots) (hexec : p.tables.exec = Jvm.exec) {own : String} {index : Nat} {y : MethodName} {bytes : ByteArray} {maxL : Nat} {ret : Option FieldType}
    (hown : s.vm.findClass own = some m.cls) (hlink : (Cond.methodLink own index y).before args s = true) (hstat : (Cond.static y).before args s = true) (hinit : (Cond.initialized y.cls).before args s = true)
    (hcode : (Cond.code y bytes maxL ret).before args s = true) (hy : y.cls ≠ "java/lang/invoke/MethodHandle" ∧ y.cls ≠ "java/lang/invoke/VarHandle")
    {W9 : Nat} {Pre : Pt → Array Value → Prop} {Post : Pt → Array Value → Option Value → Pt → Prop} {PostX : Pt → Array Value → Addr → Pt → Prop} (hK : vx_Back l R p e below s args y 3 W9 Pre Post PostX)
    {g : JFrame} (hg : g.method = m) (hsize : g.locals.size = c.maxLocals) {argsL rest : List Value} (hlen : ∀ sig, parseMethodDescriptor y.desc = some sig → argsL.length = sig.parameters.length)
    (hstack : g.stack = argsL.reverse ++ rest) (hW : 2 * g.monitorRoom + (rest.map fun v => v.category).sum ≤ W9) (hdg : decode c.code g.pc = .ok (.invokestatic index, 3))
    (hpre : ∀ vm₁, s.WarmedH vm₁ → Pre ⟨T.setVm vm₁, locs, cells, slots⟩ argsL.toArray) :
    (∃ (v : Option Value) (vm₁ : Vm) (B : Pt), s.WarmedH vm₁ ∧ Stand p l e R s m args below meth c B.U B.locs B.cells B.slots ∧ Post ⟨T.setVm vm₁, locs, cells, slots⟩ argsL.toArray v B ∧
      ∀ target, Steps p.tables e below (B.U.setTop { g with pc := g.pc + 3, stack := v.toList ++ rest }) target → Steps p.tables e below (T.setTop g) target) ∨
    (∃ (q : Addr) (vm₁ : Vm) (B : Pt), s.WarmedH vm₁ ∧ Stand p l e R s m args below meth c B.U B.locs B.cells B.slots ∧ PostX ⟨T.setVm vm₁, locs, cells, slots⟩ argsL.toArray q B ∧
      Steps p.tables e below (T.setTop g) ((B.U.setTop { g with stack := rest }).pushFrame (.throwing q))) := by
  obtain ⟨mk, hnamed⟩ := Cond.code_named hcode
  obtain ⟨methM, cM, hmethM, -, -, -, -, -, -, hsigM⟩ := Cond.code_spec hnamed hcode
  have hstatic : methM.isStatic = true := Cond.static_spec hnamed hmethM hstat
  obtain ⟨kP, hkP, -⟩ := className_of_methodNamed hnamed
  have hinitP : kP.init = .initialized := Cond.initialized_spec (findClass_of_methodNamed hnamed) hkP hinit
  obtain ⟨vm₁, X₁, hstep₁⟩ := X.invokestatic hexec hown hlink hnamed hmethM hstatic hkP hinitP hy (g := g) hg (argsL := argsL) (rest := rest) (hlen _ hsigM) hstack hdg
  rcases hK m meth c ⟨T.setVm vm₁, locs, cells, slots⟩ { g with stack := rest } (.invokestatic index) mk argsL.toArray X₁ hg hsize hdg hW (X₁.named hnamed) (hpre vm₁ X₁.warmed) with ⟨v, B, X', hpost, hsteps⟩ | ⟨q, B, X', hpost, hsteps⟩
  · exact Or.inl ⟨v, vm₁, B, X₁.warmed, X', hpost, fun target h => hstep₁ _ fun acts => by rw [doInvoke_state]; exact hsteps.trans h⟩
  · exact Or.inr ⟨q, vm₁, B, X₁.warmed, X', hpost, hstep₁ _ fun acts => by rw [doInvoke_state]; exact hsteps⟩
end Calls
theorem vx_cls {s : State} {T : State} {vm₁ : Vm} {E : String} {k : ClassId} (hW : s.WarmedH vm₁) (h : (T.setVm vm₁).vm.findClass E = some k) : s.vm.findClass E = some k := by
  have h1 : vm₁.findClass E = some k := h
  rw [hW.alike.findClass] at h1
  exact h1
/-- the method's frame g, with q thrown over it -/
def vx_W (p : Program) (l : Launch) (e : Env) (R : Room) (s : State) (m : MethodId) (args : Array Value) (below : List Frame) (meth : Method) (c : Code) (H : Heap) (locs : List Loc) (cells slots : Nat) (Q : State → Prop) (g : JFrame) (q : Addr) : Prop :=
  ∀ T : State, T.heap = H → Stand p l e R s m args below meth c T locs cells slots → ∃ t, Steps p.tables e below ((T.setTop g).pushFrame (.throwing q)) t ∧ Q t
def vx_Run (p : Program) (l : Launch) (e : Env) (R : Room) (s : State) (m : MethodId) (args : Array Value) (below : List Frame) (meth : Method) (c : Code) (H : Heap) (locs : List Loc) (cells slots mc ms : Nat) (g : JFrame) (rest : List Value) (Qa : State → Outcome → State → Prop) (XC : String → State → State → Prop) (free : Addr → Prop) : Prop :=
  ∀ T : State, T.heap = H → Stand p l e R s m args below meth c T locs cells slots →
    (∃ (v : Option Value) (st₀ t T' : State) (L : List Loc), st₀.heap = H ∧ Stand p l e R s m args below meth c T' (locs ++ L) (cells + mc) (slots + ms) ∧ (∀ q ∈ L, free q.base) ∧ T'.heap = t.heap ∧ T'.vm = t.vm ∧ Qa st₀ (.returned v) t ∧
      Goes p e below T g T' { g with pc := g.pc + 3, stack := v.toList ++ rest }) ∨
    (∃ (q : Addr) (st₀ t T' : State) (L : List Loc) (E : String) (ce : Cell), st₀.heap = H ∧ Stand p l e R s m args below meth c T' (locs ++ L) (cells + mc) (slots + ms) ∧ (∀ z ∈ L, free z.base) ∧ T'.heap = t.heap ∧ T'.vm = t.vm ∧ XC E st₀ t ∧ t.heap[q]? = some ce ∧ ce.vm = .none ∧ s.vm.findClass E = some ce.cls ∧
      Steps p.tables e below (T.setTop g) ((T'.setTop { g with stack := rest }).pushFrame (.throwing q)))
def vx_X {S : Type} (px : S → Prop) (B : String → S → State → Prop) (A : Nat → Prop) : String → State → State → Prop := fun E st t => ∃ u : S, px u ∧ B E u t ∧ va_F A st t
section Runs
variable {p : Program} {l : Launch} {e : Env} {R : Room} {s : State} {m : MethodId} {args : Array Value} {below : List Frame} {meth : Method} {c : Code} {H : Heap} {locs : List Loc} {cells slots : Nat}
variable {y : MethodName} {bytes cc : ByteArray} {maxL nL mc ms n index : Nat} {ret : Option FieldType} {ws : List Cond} {rm : Room} {Pc : Array Value → State → Prop} {Qc : Array Value → State → Outcome → State → Prop} {XC : String → State → State → Prop} {free : Addr → Prop} {Ts : List Cond} {own C : String} {b : Addr} {As rest : List Value} {g : JFrame}
theorem vx_callBack (cb : CallB R s args own index y bytes maxL ret ws rm mc ms n) (hM : vx_Met l y ws rm Pc Qc XC mc ms free) (hbl : FrameBlind Pc) : vx_Back l R p e below s args y 3 8 (PreOf R mc ms Pc) (PostOf Qc mc ms free) (vx_Post XC mc ms free) := by
  obtain ⟨hrc, hrs, hfr, hlo, hws, hcw, -, hini, -⟩ := cb
  exact vx_back (bytes := bytes) (maxL := maxL) (ret := ret) hM hbl hrc hrs hfr hlo hws hcw (fun a' U hW => word_at hW (Or.inl (by first | rfl | simp [Cond.onTables, Cond.keeps, Cond.steady])) hini)
theorem vx_runV (S : CallFix p m c cc nL s args Ts own) (hM : vx_Met l y ws rm Pc Qc XC mc ms free) (cw : CallW R s args own C index y bytes maxL ret ws rm mc ms n) (hp : PreV s H C b Pc As)
    (hg : g.method = m) (hn : As.length = n) (hsize : g.locals.size = nL) (hstack : g.stack = As.reverse ++ .ref b :: rest) (hW : 2 * g.monitorRoom + (rest.map fun v => v.category).sum ≤ 8) (hdg : decode cc g.pc = .ok (.invokevirtual index, 3)) (hf : cells + mc ≤ R.cells ∧ slots + ms ≤ R.slots) :
    vx_Run p l e R s m args below meth c H locs cells slots mc ms g rest (Qc (Value.ref b :: As).toArray) XC free := by
  have hK : vx_Back l R p e below s args y 3 8 (PreOf R mc ms Pc) (PostOf Qc mc ms free) (vx_Post XC mc ms free) := vx_callBack cw.1 hM hp.1
  obtain ⟨⟨-, -, -, -, -, -, hcode, -, hy, hlen, hl⟩, hin, hse⟩ := cw
  obtain ⟨hx, hb, hml, ho, -⟩ := S
  obtain ⟨-, ⟨cellB, hcB, hoB, hclB⟩, hPc⟩ := hp
  intro T hT X
  rcases vx_callV X hx (C := C) (bytes := bytes) (maxL := maxL) (ret := ret) ho hl hin hse hcode hy hK (by rw [hT]; exact hcB) hoB hclB hg (hsize.trans hml.symm) (argsL := As) (rest := rest) (fun sig h => hn.trans (hlen sig h)) hstack hW (by rw [hb]; exact hdg)
    (fun vm₁ hW₁ => ⟨hf.1, hf.2, hPc (T.setVm vm₁) hT hW₁⟩) with ⟨v, vm₁, ⟨U', l2, c2, s2⟩, hW₁, X', ⟨g', mk, t, L, e1, e2, hq, h1, hL, h2, h3⟩, st⟩ | ⟨q, vm₁, ⟨U', l2, c2, s2⟩, hW₁, X', ⟨g', mk, t, L, E, ce, e1, e2, hq, hce, hcv, hcl, h1, hL, h2, h3⟩, st⟩
  · dsimp only [Pt.U, Pt.locs, Pt.cells, Pt.slots] at X' e1 e2 h1 h2 h3 st
    subst h1; subst h2; subst h3
    exact Or.inl ⟨v, (T.setVm vm₁).calling g' mk (Value.ref b :: As).toArray, t, U', L, hT, X', hL, e1, e2, hq, st⟩
  · dsimp only [Pt.U, Pt.locs, Pt.cells, Pt.slots] at X' e1 e2 h1 h2 h3 st hcl
    subst h1; subst h2; subst h3
    exact Or.inr ⟨q, (T.setVm vm₁).calling g' mk (Value.ref b :: As).toArray, t, U', L, E, ce, hT, X', hL, e1, e2, hq, hce, hcv, vx_cls hW₁ hcl, st⟩
theorem vx_runS (S : CallFix p m c cc nL s args Ts own) (hM : vx_Met l y ws rm Pc Qc XC mc ms free) (cw : CallB R s args own index y bytes maxL ret ws rm mc ms n ∧ (Cond.static y).before args s = true) (hp : PreS s H Pc As)
    (hg : g.method = m) (hn : As.length = n) (hsize : g.locals.size = nL) (hstack : g.stack = As.reverse ++ rest) (hW : 2 * g.monitorRoom + (rest.map fun v => v.category).sum ≤ 8) (hdg : decode cc g.pc = .ok (.invokestatic index, 3)) (hf : cells + mc ≤ R.cells ∧ slots + ms ≤ R.slots) :
    vx_Run p l e R s m args below meth c H locs cells slots mc ms g rest (Qc As.toArray) XC free := by
  have hK : vx_Back l R p e below s args y 3 8 (PreOf R mc ms Pc) (PostOf Qc mc ms free) (vx_Post XC mc ms free) := vx_callBack cw.1 hM hp.1
  obtain ⟨⟨-, -, -, -, -, -, hcode, hini, hy, hlen, hl⟩, hstt⟩ := cw
  obtain ⟨hx, hb, hml, ho, -⟩ := S
  intro T hT X
  rcases vx_callS X hx (bytes := bytes) (maxL := maxL) (ret := ret) ho hl hstt hini hcode hy hK hg (hsize.trans hml.symm) (argsL := As) (rest := rest) (fun sig h => hn.trans (hlen sig h)) hstack hW (by rw [hb]; exact hdg)
    (fun vm₁ hW₁ => ⟨hf.1, hf.2, hp.2 (T.setVm vm₁) hT hW₁⟩) with ⟨v, vm₁, ⟨U', l2, c2, s2⟩, hW₁, X', ⟨g', mk, t, L, e1, e2, hq, h1, hL, h2, h3⟩, st⟩ | ⟨q, vm₁, ⟨U', l2, c2, s2⟩, hW₁, X', ⟨g', mk, t, L, E, ce, e1, e2, hq, hce, hcv, hcl, h1, hL, h2, h3⟩, st⟩
  · dsimp only [Pt.U, Pt.locs, Pt.cells, Pt.slots] at X' e1 e2 h1 h2 h3 st
    subst h1; subst h2; subst h3
    exact Or.inl ⟨v, (T.setVm vm₁).calling g' mk As.toArray, t, U', L, hT, X', hL, e1, e2, hq, st⟩
  · dsimp only [Pt.U, Pt.locs, Pt.cells, Pt.slots] at X' e1 e2 h1 h2 h3 st hcl
    subst h1; subst h2; subst h3
    exact Or.inr ⟨q, (T.setVm vm₁).calling g' mk As.toArray, t, U', L, E, ce, hT, X', hL, e1, e2, hq, hce, hcv, vx_cls hW₁ hcl, st⟩
end Runs
section Rows
variable {p : Program} {l : Launch} {e : Env} {R : Room} {s : State} {m : MethodId} {args : Array Value} {below : List Frame} {meth : Method} {c : Code} {H : Heap} {locs : List Loc} {cells slots : Nat} {Q : State → Prop}
variable {mc ms : Nat} {free : Addr → Prop} {A0 A1 : Nat → Prop} {H0 : Heap} {a : Array Value} {pc : Nat} {ls : Array Slot} {st0 rest : List Value}
theorem vx_keep {st₀ t T' : State} {L : List Loc} (h0 : st₀.heap = H) (e1 : T'.heap = t.heap) (hS : va_S A0 H0 H locs) (hA : ∀ q, q < H.size → A1 q → A0 q) (hf : ∀ q, free q → A0 q) (hL : ∀ q ∈ L, free q.base) (hF : va_F A1 st₀ t) :
    H.size ≤ T'.heap.size ∧ (∀ q : Nat, q < H.size → ¬ A1 q → T'.heap[q]? = H[q]?) ∧ va_S A0 H0 T'.heap (locs ++ L) := by
  obtain ⟨hz, hk⟩ := hF
  rw [h0] at hz hk
  exact ⟨by rw [e1]; exact hz, fun q h1 h2 => by rw [e1]; exact hk q h1 h2,
    ⟨Nat.le_trans hS.1 (by rw [e1]; exact hz), fun q h1 h2 => by rw [e1, hk q (Nat.lt_of_lt_of_le h1 hS.1) (fun z => h2 (hA q (Nat.lt_of_lt_of_le h1 hS.1) z))]; exact hS.2.1 q h1 h2, fun q hq => by
      rcases List.mem_append.mp hq with h | h
      · exact hS.2.2 q h
      · exact hf _ (hL q h)⟩⟩
theorem vx_calli {S SX : Type} {post : Int32 → S → Prop} {px : SX → Prop} {B : S → State → Prop} {BX : String → SX → State → Prop} {AX : Nat → Prop} (hr : vx_Run p l e R s m args below meth c H locs cells slots mc ms (F0 m pc ls st0) rest (va_Qi post B A1 a) (vx_X px BX AX) free) (hS : va_S A0 H0 H locs) (hA : ∀ q, q < H.size → A1 q → A0 q) (hf : ∀ q, free q → A0 q) (hAX : ∀ q, q < H.size → AX q → A0 q)
    (kx : ∀ (E : String) (ce : Cell) (q9 : Addr) (u : SX) (t : State) (H1 : Heap) (locs1 : List Loc), t.heap = H1 → s.vm.Alike t.vm → px u → BX E u t → H.size ≤ H1.size → (∀ q : Nat, q < H.size → ¬ AX q → H1[q]? = H[q]?) → va_S A0 H0 H1 locs1 → H1[q9]? = some ce → ce.vm = .none → s.vm.findClass E = some ce.cls → vx_W p l e R s m args below meth c H1 locs1 (cells + mc) (slots + ms) Q (F0 m pc ls rest) q9)
    (kk : ∀ (r : Int32) (u : S) (t : State) (H1 : Heap) (locs1 : List Loc), t.heap = H1 → s.vm.Alike t.vm → post r u → B u t → H.size ≤ H1.size → (∀ q : Nat, q < H.size → ¬ A1 q → H1[q]? = H[q]?) → va_S A0 H0 H1 locs1 → W p l e R s m args below meth c H1 locs1 (cells + mc) (slots + ms) Q (F0 m (pc + 3) ls (.int r :: rest))) : W p l e R s m args below meth c H locs cells slots Q (F0 m pc ls st0) := by
  intro T hT X
  rcases hr T hT X with ⟨v, st₀, t, T', L, h0, X', hL, e1, e2, ⟨⟨r, u, hv, hp, hb⟩, hF⟩, st⟩ | ⟨q, st₀, t, T', L, E, ce, h0, X', hL, e1, e2, ⟨u, hp, hb, hF⟩, hce, hcv, hcl, st⟩
  · cases hv
    obtain ⟨k1, k2, k3⟩ := vx_keep h0 e1 hS hA hf hL hF
    obtain ⟨t2, a1, b1⟩ := kk r u t T'.heap (locs ++ L) e1.symm (by rw [← e2]; exact X'.warmed.alike) hp hb k1 k2 k3 T' rfl X'
    exact ⟨t2, st t2 a1, b1⟩
  · obtain ⟨k1, k2, k3⟩ := vx_keep h0 e1 hS hAX hf hL hF
    obtain ⟨t2, a1, b1⟩ := kx E ce q u t T'.heap (locs ++ L) e1.symm (by rw [← e2]; exact X'.warmed.alike) hp hb k1 k2 k3 (by rw [e1]; exact hce) hcv hcl T' rfl X'
    exact ⟨t2, st.trans a1, b1⟩
theorem vx_calll {S SX : Type} {post : Int64 → S → Prop} {px : SX → Prop} {B : S → State → Prop} {BX : String → SX → State → Prop} {AX : Nat → Prop} (hr : vx_Run p l e R s m args below meth c H locs cells slots mc ms (F0 m pc ls st0) rest (va_Ql post B A1 a) (vx_X px BX AX) free) (hS : va_S A0 H0 H locs) (hA : ∀ q, q < H.size → A1 q → A0 q) (hf : ∀ q, free q → A0 q) (hAX : ∀ q, q < H.size → AX q → A0 q)
    (kx : ∀ (E : String) (ce : Cell) (q9 : Addr) (u : SX) (t : State) (H1 : Heap) (locs1 : List Loc), t.heap = H1 → s.vm.Alike t.vm → px u → BX E u t → H.size ≤ H1.size → (∀ q : Nat, q < H.size → ¬ AX q → H1[q]? = H[q]?) → va_S A0 H0 H1 locs1 → H1[q9]? = some ce → ce.vm = .none → s.vm.findClass E = some ce.cls → vx_W p l e R s m args below meth c H1 locs1 (cells + mc) (slots + ms) Q (F0 m pc ls rest) q9)
    (kk : ∀ (r : Int64) (u : S) (t : State) (H1 : Heap) (locs1 : List Loc), t.heap = H1 → s.vm.Alike t.vm → post r u → B u t → H.size ≤ H1.size → (∀ q : Nat, q < H.size → ¬ A1 q → H1[q]? = H[q]?) → va_S A0 H0 H1 locs1 → W p l e R s m args below meth c H1 locs1 (cells + mc) (slots + ms) Q (F0 m (pc + 3) ls (.long r :: rest))) : W p l e R s m args below meth c H locs cells slots Q (F0 m pc ls st0) := by
  intro T hT X
  rcases hr T hT X with ⟨v, st₀, t, T', L, h0, X', hL, e1, e2, ⟨⟨r, u, hv, hp, hb⟩, hF⟩, st⟩ | ⟨q, st₀, t, T', L, E, ce, h0, X', hL, e1, e2, ⟨u, hp, hb, hF⟩, hce, hcv, hcl, st⟩
  · cases hv
    obtain ⟨k1, k2, k3⟩ := vx_keep h0 e1 hS hA hf hL hF
    obtain ⟨t2, a1, b1⟩ := kk r u t T'.heap (locs ++ L) e1.symm (by rw [← e2]; exact X'.warmed.alike) hp hb k1 k2 k3 T' rfl X'
    exact ⟨t2, st t2 a1, b1⟩
  · obtain ⟨k1, k2, k3⟩ := vx_keep h0 e1 hS hAX hf hL hF
    obtain ⟨t2, a1, b1⟩ := kx E ce q u t T'.heap (locs ++ L) e1.symm (by rw [← e2]; exact X'.warmed.alike) hp hb k1 k2 k3 (by rw [e1]; exact hce) hcv hcl T' rfl X'
    exact ⟨t2, st.trans a1, b1⟩
theorem vx_callf {S SX : Type} {post : UInt32 → S → Prop} {px : SX → Prop} {B : S → State → Prop} {BX : String → SX → State → Prop} {AX : Nat → Prop} (hr : vx_Run p l e R s m args below meth c H locs cells slots mc ms (F0 m pc ls st0) rest (va_Qf post B A1 a) (vx_X px BX AX) free) (hS : va_S A0 H0 H locs) (hA : ∀ q, q < H.size → A1 q → A0 q) (hf : ∀ q, free q → A0 q) (hAX : ∀ q, q < H.size → AX q → A0 q)
    (kx : ∀ (E : String) (ce : Cell) (q9 : Addr) (u : SX) (t : State) (H1 : Heap) (locs1 : List Loc), t.heap = H1 → s.vm.Alike t.vm → px u → BX E u t → H.size ≤ H1.size → (∀ q : Nat, q < H.size → ¬ AX q → H1[q]? = H[q]?) → va_S A0 H0 H1 locs1 → H1[q9]? = some ce → ce.vm = .none → s.vm.findClass E = some ce.cls → vx_W p l e R s m args below meth c H1 locs1 (cells + mc) (slots + ms) Q (F0 m pc ls rest) q9)
    (kk : ∀ (r : UInt32) (u : S) (t : State) (H1 : Heap) (locs1 : List Loc), t.heap = H1 → s.vm.Alike t.vm → post r u → B u t → H.size ≤ H1.size → (∀ q : Nat, q < H.size → ¬ A1 q → H1[q]? = H[q]?) → va_S A0 H0 H1 locs1 → W p l e R s m args below meth c H1 locs1 (cells + mc) (slots + ms) Q (F0 m (pc + 3) ls (.float r :: rest))) : W p l e R s m args below meth c H locs cells slots Q (F0 m pc ls st0) := by
  intro T hT X
  rcases hr T hT X with ⟨v, st₀, t, T', L, h0, X', hL, e1, e2, ⟨⟨r, u, hv, hp, hb⟩, hF⟩, st⟩ | ⟨q, st₀, t, T', L, E, ce, h0, X', hL, e1, e2, ⟨u, hp, hb, hF⟩, hce, hcv, hcl, st⟩
  · cases hv
    obtain ⟨k1, k2, k3⟩ := vx_keep h0 e1 hS hA hf hL hF
    obtain ⟨t2, a1, b1⟩ := kk r u t T'.heap (locs ++ L) e1.symm (by rw [← e2]; exact X'.warmed.alike) hp hb k1 k2 k3 T' rfl X'
    exact ⟨t2, st t2 a1, b1⟩
  · obtain ⟨k1, k2, k3⟩ := vx_keep h0 e1 hS hAX hf hL hF
    obtain ⟨t2, a1, b1⟩ := kx E ce q u t T'.heap (locs ++ L) e1.symm (by rw [← e2]; exact X'.warmed.alike) hp hb k1 k2 k3 (by rw [e1]; exact hce) hcv hcl T' rfl X'
    exact ⟨t2, st.trans a1, b1⟩
theorem vx_calld {S SX : Type} {post : UInt64 → S → Prop} {px : SX → Prop} {B : S → State → Prop} {BX : String → SX → State → Prop} {AX : Nat → Prop} (hr : vx_Run p l e R s m args below meth c H locs cells slots mc ms (F0 m pc ls st0) rest (va_Qd post B A1 a) (vx_X px BX AX) free) (hS : va_S A0 H0 H locs) (hA : ∀ q, q < H.size → A1 q → A0 q) (hf : ∀ q, free q → A0 q) (hAX : ∀ q, q < H.size → AX q → A0 q)
    (kx : ∀ (E : String) (ce : Cell) (q9 : Addr) (u : SX) (t : State) (H1 : Heap) (locs1 : List Loc), t.heap = H1 → s.vm.Alike t.vm → px u → BX E u t → H.size ≤ H1.size → (∀ q : Nat, q < H.size → ¬ AX q → H1[q]? = H[q]?) → va_S A0 H0 H1 locs1 → H1[q9]? = some ce → ce.vm = .none → s.vm.findClass E = some ce.cls → vx_W p l e R s m args below meth c H1 locs1 (cells + mc) (slots + ms) Q (F0 m pc ls rest) q9)
    (kk : ∀ (r : UInt64) (u : S) (t : State) (H1 : Heap) (locs1 : List Loc), t.heap = H1 → s.vm.Alike t.vm → post r u → B u t → H.size ≤ H1.size → (∀ q : Nat, q < H.size → ¬ A1 q → H1[q]? = H[q]?) → va_S A0 H0 H1 locs1 → W p l e R s m args below meth c H1 locs1 (cells + mc) (slots + ms) Q (F0 m (pc + 3) ls (.double r :: rest))) : W p l e R s m args below meth c H locs cells slots Q (F0 m pc ls st0) := by
  intro T hT X
  rcases hr T hT X with ⟨v, st₀, t, T', L, h0, X', hL, e1, e2, ⟨⟨r, u, hv, hp, hb⟩, hF⟩, st⟩ | ⟨q, st₀, t, T', L, E, ce, h0, X', hL, e1, e2, ⟨u, hp, hb, hF⟩, hce, hcv, hcl, st⟩
  · cases hv
    obtain ⟨k1, k2, k3⟩ := vx_keep h0 e1 hS hA hf hL hF
    obtain ⟨t2, a1, b1⟩ := kk r u t T'.heap (locs ++ L) e1.symm (by rw [← e2]; exact X'.warmed.alike) hp hb k1 k2 k3 T' rfl X'
    exact ⟨t2, st t2 a1, b1⟩
  · obtain ⟨k1, k2, k3⟩ := vx_keep h0 e1 hS hAX hf hL hF
    obtain ⟨t2, a1, b1⟩ := kx E ce q u t T'.heap (locs ++ L) e1.symm (by rw [← e2]; exact X'.warmed.alike) hp hb k1 k2 k3 (by rw [e1]; exact hce) hcv hcl T' rfl X'
    exact ⟨t2, st.trans a1, b1⟩
theorem vx_callv {S SX : Type} {post : S → Prop} {px : SX → Prop} {B : S → State → Prop} {BX : String → SX → State → Prop} {AX : Nat → Prop} (hr : vx_Run p l e R s m args below meth c H locs cells slots mc ms (F0 m pc ls st0) rest (va_Qv post B A1 a) (vx_X px BX AX) free) (hS : va_S A0 H0 H locs) (hA : ∀ q, q < H.size → A1 q → A0 q) (hf : ∀ q, free q → A0 q) (hAX : ∀ q, q < H.size → AX q → A0 q)
    (kx : ∀ (E : String) (ce : Cell) (q9 : Addr) (u : SX) (t : State) (H1 : Heap) (locs1 : List Loc), t.heap = H1 → s.vm.Alike t.vm → px u → BX E u t → H.size ≤ H1.size → (∀ q : Nat, q < H.size → ¬ AX q → H1[q]? = H[q]?) → va_S A0 H0 H1 locs1 → H1[q9]? = some ce → ce.vm = .none → s.vm.findClass E = some ce.cls → vx_W p l e R s m args below meth c H1 locs1 (cells + mc) (slots + ms) Q (F0 m pc ls rest) q9)
    (kk : ∀ (u : S) (t : State) (H1 : Heap) (locs1 : List Loc), t.heap = H1 → s.vm.Alike t.vm → post u → B u t → H.size ≤ H1.size → (∀ q : Nat, q < H.size → ¬ A1 q → H1[q]? = H[q]?) → va_S A0 H0 H1 locs1 → W p l e R s m args below meth c H1 locs1 (cells + mc) (slots + ms) Q (F0 m (pc + 3) ls (rest))) : W p l e R s m args below meth c H locs cells slots Q (F0 m pc ls st0) := by
  intro T hT X
  rcases hr T hT X with ⟨v, st₀, t, T', L, h0, X', hL, e1, e2, ⟨⟨u, hv, hp, hb⟩, hF⟩, st⟩ | ⟨q, st₀, t, T', L, E, ce, h0, X', hL, e1, e2, ⟨u, hp, hb, hF⟩, hce, hcv, hcl, st⟩
  · cases hv
    obtain ⟨k1, k2, k3⟩ := vx_keep h0 e1 hS hA hf hL hF
    obtain ⟨t2, a1, b1⟩ := kk u t T'.heap (locs ++ L) e1.symm (by rw [← e2]; exact X'.warmed.alike) hp hb k1 k2 k3 T' rfl X'
    exact ⟨t2, st t2 a1, b1⟩
  · obtain ⟨k1, k2, k3⟩ := vx_keep h0 e1 hS hAX hf hL hF
    obtain ⟨t2, a1, b1⟩ := kx E ce q u t T'.heap (locs ++ L) e1.symm (by rw [← e2]; exact X'.warmed.alike) hp hb k1 k2 k3 (by rw [e1]; exact hce) hcv hcl T' rfl X'
    exact ⟨t2, st.trans a1, b1⟩
/-- caught by the row x of this method's table; the rows ahead don't take it -/
theorem vx_catch {own name : String} {E : String} {ce : Cell} {q : Addr} (hown : s.vm.findClass own = some m.cls) (pre : List ExceptionTableEntry) (x : ExceptionTableEntry) (suf : List ExceptionTableEntry) (hsplit : c.exceptionTable.toList = pre ++ x :: suf)
    (hpass : ∀ z ∈ pre, covers z pc = false ∨ (z.catchType ≠ 0 ∧ ∃ nm : String, (Cond.classLink own z.catchType nm).before args s = true ∧ va_Nc E nm s)) (hx : covers x pc = true) (h0 : x.catchType ≠ 0)
    (hlink : (Cond.classLink own x.catchType name).before args s = true) (hcast : (Cond.castable E name).before args s = true) (hcell : H[q]? = some ce) (hv : ce.vm = .none) (hcl : s.vm.findClass E = some ce.cls)
    (kk : W p l e R s m args below meth c H locs cells slots Q (F0 m x.handlerPc ls [.ref q])) : vx_W p l e R s m args below meth c H locs cells slots Q (F0 m pc ls rest) q := by
  intro T hT X
  have hpl : e.platform.magicAccessors = ({} : Platform).magicAccessors := by rw [X.admits.platform]
  obtain ⟨c3, c4, hc3, hc4, hasg⟩ := Cond.castable_spec hcast
  cases Option.some.inj (hc3.symm.trans hcl)
  obtain ⟨c5, hc5, hcl5⟩ := Cond.classLink_spec hown hlink e.platform hpl
  cases Option.some.inj (hc4.symm.trans hc5)
  obtain ⟨vm', X', st⟩ := X.thenCaughtThrough q (g := F0 m pc ls rest) rfl (Steps.refl _) (by rw [hT]; exact hcell) (by rw [hv]; rfl) (by obtain ⟨k9, h9, -⟩ := Vm.findClass_spec hcl; exact ⟨k9, h9⟩) pre x suf hsplit
    (fun z hz => by
      rcases hpass z hz with h | ⟨hz0, nm, hl1, hn1⟩
      · exact Or.inl h
      · obtain ⟨c6, hc6, hcl6⟩ := Cond.classLink_spec hown hl1 e.platform hpl
        obtain ⟨a8, b8, h1, h2, h3⟩ := hn1
        cases Option.some.inj (h1.symm.trans hcl)
        cases Option.some.inj (h2.symm.trans hc6)
        exact Or.inr ⟨hz0, _, hcl6, h3⟩) hx (Or.inr ⟨h0, c4, hcl5, hasg⟩)
  obtain ⟨t, a1, b1⟩ := kk (T.setVm vm') hT X'
  exact ⟨t, st.trans a1, b1⟩
end Rows
section Ends
variable {p : Program} {l : Launch} {e : Env} {R : Room} {s : State} {m : MethodId} {args : Array Value} {below : List Frame} {meth : Method} {c : Code} {H : Heap} {locs : List Loc} {cells slots : Nat} {Q : State → Prop}
variable {mc ms : Nat} {free : Addr → Prop} {A0 A1 : Nat → Prop} {H0 : Heap} {a : Array Value} {ls : Array Slot} {st0 rest : List Value}
variable {Qc : Array Value → State → Outcome → State → Prop} {XC : String → State → State → Prop}
/-- what a body that may throw owes at its end -/
def vx_MQ (below : List Frame) (Qc : Array Value → State → Outcome → State → Prop) (XC : String → State → State → Prop) (a : Array Value) (s : State) (mc ms : Nat) (free : Addr → Prop) : State → Prop := fun t =>
  ∃ o, t.status = .running ∧ Ended t below o ∧ vx_Q Qc XC mc ms free a s o t
theorem vx_ret {g : JFrame} {mc ms : Nat} (k : W p l e R s m args below meth c H locs cells slots (MQ below Qc args s mc ms free) g) : W p l e R s m args below meth c H locs cells slots (vx_MQ below Qc XC args s mc ms free) g := by
  intro T hT X
  obtain ⟨t, a1, o, b1, b2, b3, b4⟩ := k T hT X
  exact ⟨t, a1, o, b1, b2, Or.inl ⟨b3, b4⟩⟩
/-- not caught here: it goes on to the caller -/
theorem vx_widen {g : JFrame} {q : Addr} {k n : Nat} (h1 : cells ≤ k) (h2 : slots ≤ n) (kk : vx_W p l e R s m args below meth c H locs k n Q g q) : vx_W p l e R s m args below meth c H locs cells slots Q g q := fun T hT X => kk T hT (stand_widen X h1 h2)
theorem vx_out {pc : Nat} {E : String} {ce : Cell} {q : Addr} {mc ms : Nat} (hout : ∀ x ∈ c.exceptionTable.toList, covers x pc = false) (hlocks : meth.locks = false) (hcell : H[q]? = some ce) (hv : ce.vm = .none) (hcl : s.vm.findClass E = some ce.cls)
    (hx : ∀ t : State, t.heap = H → s.vm.Alike t.vm → XC E s t) (hf : ∀ z ∈ locs, free z.base) (hc : cells ≤ mc) (hs : slots ≤ ms) :
    vx_W p l e R s m args below meth c H locs cells slots (vx_MQ below Qc XC args s mc ms free) (F0 m pc ls rest) q := by
  intro T hT X
  obtain ⟨st1, hrun, hend, hW, hsm⟩ := X.leaveThrown q (g := F0 m pc ls rest) rfl rfl rfl hout hlocks
  have hcell9 : (T.setFrames (.throwing q :: below)).heap[q]? = some ce := by
    show T.heap[q]? = some ce
    rw [hT]; exact hcell
  exact ⟨_, st1, .threw q, hrun, hend, Or.inr ⟨q, rfl, E, ce, locs, hx _ hT hW.alike, hcell9, hv, hcl, hW, hsm.mono hc hs, hf⟩⟩
theorem vx_frame {U : State} {k n : Nat} (h : s.sameButNew ({ U with vm := s.vm } : State) locs k n) : s.heap.size ≤ U.heap.size ∧ ∀ q : Nat, q < s.heap.size → (∀ z ∈ locs, z.base ≠ q) → U.heap[q]? = s.heap[q]? := by
  obtain ⟨-, h2, -, -, -, h6⟩ := h
  refine ⟨h2, fun q hq hz => ?_⟩
  obtain ⟨c9, e1, e2, e3, e4⟩ := h6 q _ (Array.getElem?_eq_getElem hq)
  have hs : c9.slots = (s.heap[q]).slots := Array.ext_getElem? fun i => e4 i fun hm => hz _ hm rfl
  have h9 : c9 = s.heap[q] := by
    rw [hs] at e2
    exact e2
  have e5 : U.heap[q]? = some c9 := e1
  rw [e5, h9, Array.getElem?_eq_getElem hq]
/-- the words of a throw but the four that speak of the heap -/
def vx_no (w : Cond) : Bool := decide (w ≠ .isRef (.static Bundle.tN "UNASSIGNED_STACK" Bundle.steD)) && decide (w ≠ .isRef (.static Bundle.tN "SUPPRESSED_SENTINEL" Bundle.listD)) && decide (w ≠ .laysStatic Bundle.tN "UNASSIGNED_STACK" Bundle.steD) && decide (w ≠ .laysStatic Bundle.tN "SUPPRESSED_SENTINEL" Bundle.listD)
def vx_at0 (own : String) (ic : Nat) (X : String) (names : List String) : List Cond := (Bundle.ownAtoms0 own ic X names).filter vx_no
def vx_atS (own : String) (ic : Nat) (X : String) (names : List String) : List Cond := (Bundle.ownAtoms own ic X names).filter vx_no
/-- a word that the tables alone decide, or a good one -/
def vx_ot (w : Cond) : Bool := w.onTables || goodWord w
theorem vx_ot_at {args a' : Array Value} {s U : State} {w : Cond} (hW : s.WarmedH U.vm) (hvm : s.vm = U.vm) (hg : vx_ot w = true) (h : w.before args s = true) : w.before a' U = true := by
  simp only [vx_ot, Bool.or_eq_true] at hg
  rcases hg with hg | hg
  · exact va_tabs hg hvm h
  · exact word_at hW (good_of_word hg) h
/-- a list's words: the good ones out of the method's own list, the others by premises of their own -/
theorem vx_hat {args : Array Value} {s : State} {L B : List Cond} (h1 : ∀ w ∈ L.filter goodWord, w.before args s = true) (h2 : ∀ w ∈ L.filter (fun w => !goodWord w), w ∈ B) (h3 : ∀ w ∈ B, w.before args s = true) : ∀ w ∈ L, w.before args s = true := by
  intro w hw
  by_cases g : goodWord w = true
  · exact h1 w (List.mem_filter.mpr ⟨hw, g⟩)
  · refine h3 w (h2 w (List.mem_filter.mpr ⟨hw, ?_⟩))
    show (!goodWord w) = true
    cases hgw : goodWord w
    · rfl
    · exact absurd hgw g
theorem vx_c {args : Array Value} {s : State} {w : Cond} {B : List Cond} (h : w.before args s = true) (t : ∀ w ∈ B, w.before args s = true) : ∀ w' ∈ w :: B, w'.before args s = true := fun w' h' => (List.mem_cons.mp h').elim (fun e => by rw [e]; exact h) (t w')
theorem vx_n {args : Array Value} {s : State} : ∀ w ∈ ([] : List Cond), w.before args s = true := fun _ h => nomatch h
theorem vx_own {args : Array Value} {s : State} {L : List Cond} (h1 : ∀ w ∈ L.filter vx_no, w.before args s = true)
    (hU : (Cond.isRef (.static Bundle.tN "UNASSIGNED_STACK" Bundle.steD)).before args s = true) (hN : (Cond.isRef (.static Bundle.tN "SUPPRESSED_SENTINEL" Bundle.listD)).before args s = true)
    (lU : (Cond.laysStatic Bundle.tN "UNASSIGNED_STACK" Bundle.steD).before args s = true) (lN : (Cond.laysStatic Bundle.tN "SUPPRESSED_SENTINEL" Bundle.listD).before args s = true) : ∀ w ∈ L, w.before args s = true := by
  intro w hw
  by_cases e1 : w = .isRef (.static Bundle.tN "UNASSIGNED_STACK" Bundle.steD)
  · rw [e1]; exact hU
  · by_cases e2 : w = .isRef (.static Bundle.tN "SUPPRESSED_SENTINEL" Bundle.listD)
    · rw [e2]; exact hN
    · by_cases e3 : w = .laysStatic Bundle.tN "UNASSIGNED_STACK" Bundle.steD
      · rw [e3]; exact lU
      · by_cases e4 : w = .laysStatic Bundle.tN "SUPPRESSED_SENTINEL" Bundle.listD
        · rw [e4]; exact lN
        · exact h1 w (List.mem_filter.mpr ⟨hw, by unfold vx_no; rw [decide_eq_true e1, decide_eq_true e2, decide_eq_true e3, decide_eq_true e4]; rfl⟩)
/-- where a static field lies, its class's statics cell in H -/
def vx_L (C n d : String) (A : Nat → Prop) (U : State) (H : Heap) : Prop := ∃ (c : ClassId) (k : Class) (i : Nat) (f : Field) (a : Nat) (cell : Cell), U.vm.findClass C = some c ∧ U.fieldFound? C n d = some (c, k, i, f) ∧ f.isStatic = true ∧ k.statics = some a ∧ H[a]? = some cell ∧ cell.vm.isStatics = true ∧ cell.cls = c ∧ f.slot < cell.slots.size ∧ k.staticTypes[f.slot]? = some f.type ∧ ¬ A a
theorem vx_L.moved {C n d : String} {A : Nat → Prop} {u U : State} {H : Heap} (hvm : u.vm.Alike U.vm) (h : vx_L C n d A u H) : vx_L C n d A U H := by
  obtain ⟨c, k, i, f, a, cell, h1, h2, h3, h4, h5, h6, h7, h8, h9, h10⟩ := h
  obtain ⟨k', hi', he⟩ := State.fieldFound?_setVm hvm h2
  exact ⟨c, k', i, f, a, cell, by rw [hvm.findClass]; exact h1, hi', h3, by rw [he]; exact h4, h5, h6, h7, h8, by rw [he]; exact h9, h10⟩
theorem vx_L.kept {C n d : String} {A : Nat → Prop} {U : State} {H H1 : Heap} (h : vx_L C n d A U H) (hq : ∀ a : Nat, a < H.size → ¬ A a → H1[a]? = H[a]?) : vx_L C n d A U H1 := by
  obtain ⟨c, k, i, f, a, cell, h1, h2, h3, h4, h5, h6, h7, h8, h9, h10⟩ := h
  exact ⟨c, k, i, f, a, cell, h1, h2, h3, h4, by rw [hq a (Array.getElem?_eq_some_iff.mp h5).1 h10]; exact h5, h6, h7, h8, h9, h10⟩
theorem vx_L.narrow {C n d : String} {A B : Nat → Prop} {U : State} {H : Heap} (h : vx_L C n d A U H) (hAB : ∀ q, B q → A q) : vx_L C n d B U H := by
  obtain ⟨c, k, i, f, a, cell, h1, h2, h3, h4, h5, h6, h7, h8, h9, h10⟩ := h
  exact ⟨c, k, i, f, a, cell, h1, h2, h3, h4, h5, h6, h7, h8, h9, fun z => h10 (hAB _ z)⟩
theorem vx_L.word {C n d : String} {A : Nat → Prop} {s : State} {args : Array Value} (h : vx_L C n d A s s.heap) : (Cond.laysStatic C n d).before args s = true := by
  obtain ⟨c, k, i, f, a, cell, h1, h2, h3, h4, h5, h6, h7, h8, h9, -⟩ := h
  show (Cond.laysStatic C n d).holds args s none s [] = true
  exact Cond.laysStatic_of h1 h2 h3 h4 h5 h6 h7 h8 h9
/-- .. and what it holds: null or some reference -/
def vx_Zq (C n d : String) (A : Nat → Prop) (U : State) (H : Heap) : Prop := va_Zq C n d A U H ∧ vx_L C n d A U H
theorem vx_Zq.moved {C n d : String} {A : Nat → Prop} {u U : State} {H : Heap} (hvm : u.vm.Alike U.vm) (h : vx_Zq C n d A u H) : vx_Zq C n d A U H := ⟨va_Zq.moved hvm h.1, vx_L.moved hvm h.2⟩
theorem vx_Zq.kept {C n d : String} {A : Nat → Prop} {U : State} {H H1 : Heap} (h : vx_Zq C n d A U H) (hq : ∀ a : Nat, a < H.size → ¬ A a → H1[a]? = H[a]?) : vx_Zq C n d A U H1 := ⟨va_Zq.kept h.1 hq, vx_L.kept h.2 hq⟩
theorem vx_Zq.narrow {C n d : String} {A B : Nat → Prop} {U : State} {H : Heap} (h : vx_Zq C n d A U H) (hAB : ∀ q, B q → A q) : vx_Zq C n d B U H := ⟨va_Zq.narrow h.1 hAB, vx_L.narrow h.2 hAB⟩
theorem vx_Zqof {args : Array Value} {s : State} {C n d : String} {A : Nat → Prop} (hl : (Cond.laysStatic C n d).before args s = true) (hini : (Cond.initialized C).before args s = true) (h : (Cond.isRef (.static C n d)).before args s = true) (hA : ∀ a : Nat, a < s.heap.size → ¬ A a) : vx_Zq C n d A s s.heap := by
  refine ⟨va_Zqof hl hini h hA, ?_⟩
  obtain ⟨c, k, i, f, a, cell, h1, h2, h3, h4, h5, h6, h7, h8, h9⟩ := Cond.laysStatic_spec hl
  exact ⟨c, k, i, f, a, cell, h1, h2, h3, h4, h5, h6, h7, h8, h9, hA a (Array.getElem?_eq_some_iff.mp h5).1⟩
theorem vx_isRef {C n d : String} {v : Value} {A : Nat → Prop} {s : State} {args : Array Value} (h : va_Z C n d v A s s.heap) (hv : v.isRef = true) : (Cond.isRef (.static C n d)).before args s = true := by
  obtain ⟨cf, kf, fi, f, a, cell, h1, h2, h3, h4, h5, h6, h7, -⟩ := h
  have he : (Term.static C n d).eval args s none [] s = some v := by
    simp [Term.eval, State.fieldNamed?, h1, h2, h4, h5, h6, h7]
  simp only [Cond.before, Cond.holds, Cond.value, he]
  cases v <;> simp_all [Value.isRef]
theorem vx_isRefq {C n d : String} {A : Nat → Prop} {s : State} {args : Array Value} (h : va_Zq C n d A s s.heap) : (Cond.isRef (.static C n d)).before args s = true := by
  rcases h with h | ⟨t, h⟩
  · exact vx_isRef h rfl
  · exact vx_isRef h rfl
/-- the same frame, seen from here: as if the method were called anew in this heap -/
theorem vx_rebase {T : State} (X : Stand p l e R s m args below meth c T locs cells slots) {R' : Room} (hf : R'.frames ≤ R.frames) (hl : R'.locals ≤ R.locals) (hc : cells + R'.cells ≤ R.cells) (hs : slots + R'.slots ≤ R.slots) :
    Stand p l e R' ((T.setVm s.vm).setFrames (.invoking m args :: below)) m args below meth c T [] 0 0 := by
  have htop : (T.setVm s.vm).topJava?.isSome := X.here.top
  have hF : ((T.setVm s.vm).setFrames (.invoking m args :: below)).frames = .invoking m args :: below := State.frames_setFrames _ (State.cur_lt_of_top htop)
  obtain ⟨g₀, hg0⟩ := Option.isSome_iff_exists.mp htop
  obtain ⟨r, hr⟩ := State.topJava?_eq_some.mp hg0
  have hl9 : e.platform.stackLimits (T.setVm s.vm).me = e.platform.stackLimits s.me := X.limits
  have hb9 : (T.setVm s.vm).me.stackBytes = s.me.stackBytes := X.bytes
  refine ⟨X.admits, X.cas, X.clock, hF, ?_, X.hears, X.method, X.code, X.here, X.tail, X.warmed, ?_, ?_, ?_⟩
  · have h := X.room
    have hU : ((T.setVm s.vm).setFrames (.invoking m args :: below)).localsInUse = s.localsInUse := by
      rw [State.localsInUse_invoking hF (meth := meth) (c := c) X.method X.code, State.localsInUse_invoking X.frames X.method X.code]
    simp only [State.hasRoom, Bool.and_eq_true, decide_eq_true_eq] at h ⊢
    obtain ⟨⟨⟨⟨h1, h2, h3, h4, h5, h6⟩, h7⟩, h8⟩, h9⟩ := h
    rw [X.frames, List.length_cons] at h2 h3
    have q1 := X.heapSize
    have q2 := X.used
    simp only [hF, hU, List.length_cons, State.stackLimits_setFrames, State.stackBytes_setFrames, hl9, hb9]
    refine ⟨⟨⟨⟨by omega, by omega, by omega, by omega, by omega, h6⟩, ?_⟩, ?_⟩, X.book⟩
    · show T.heap.size + R'.cells ≤ e.platform.maxCells
      omega
    · show T.slotsUsed + R'.slots ≤ e.platform.maxSlots
      omega
  · rw [State.stackLimits_setFrames]; rfl
  · rw [State.stackBytes_setFrames]; rfl
  · refine ⟨?_, Nat.le_refl _, Nat.le_refl _, ?_, ?_, fun a c9 h9 => ⟨c9, h9, rfl, rfl, fun _ _ => rfl⟩⟩
    · obtain ⟨t, ht, -⟩ := State.frames_cons hr
      show T.setVm s.vm = { ((T.setVm s.vm).setFrames (.invoking m args :: below)).setFrames (T.setVm s.vm).frames with heap := T.heap, slotsUsed := T.slotsUsed }
      rw [State.setFrames_setFrames, State.setFrames_self ht]
      rfl
    · show T.slotsUsed = T.slotsUsed + ((T.heap.toList.drop T.heap.size).map (·.slots.size)).sum
      rw [List.drop_eq_nil_of_le (Nat.le_of_eq Array.length_toList)]
      rfl
    · show ((T.heap.toList.drop T.heap.size).map (·.slots.size)).sum ≤ 0
      rw [List.drop_eq_nil_of_le (Nat.le_of_eq Array.length_toList)]
      exact Nat.le_refl _
/-- 'throw new E()': new; dup; invokespecial; athrow -/
theorem vx_throw0 {cc : ByteArray} {pc : Nat} (hexec : p.tables.exec = Jvm.exec) (hb : c.code = cc) (hl : l.stackTraces = false) {own cls : String} {names : List String} {ik ic mc ms : Nat} {A : Nat → Prop}
    (hown : s.vm.findClass own = some m.cls) (hcls : Bundle.fit cls = true) (hnames : ∀ n ∈ names, Bundle.fit n = true)
    (hk : (Cond.classLink own ik cls).before args s = true) (hini : (Cond.initialized cls).before args s = true) (hat : ∀ w ∈ vx_at0 own ic cls names, w.before args s = true)
    (hgood : ∀ w ∈ Cond.classLink own ik cls :: Cond.initialized cls :: vx_at0 own ic cls names, vx_ot w = true)
    (hU : vx_Zq Bundle.tN "UNASSIGNED_STACK" Bundle.steD A s s.heap) (hN : vx_Zq Bundle.tN "SUPPRESSED_SENTINEL" Bundle.listD A s s.heap) (hS : va_S A s.heap H locs) (hsize : ls.size = c.maxLocals)
    (d0 : decode cc pc = .ok (.new ik, 3)) (d3 : decode cc (pc + 3) = .ok (.dup, 1)) (d4 : decode cc (pc + 4) = .ok (.invokespecial ic, 3)) (d7 : decode cc (pc + 7) = .ok (.athrow, 1))
    (hout : ∀ x ∈ c.exceptionTable.toList, covers x (pc + 7) = false)
    (hRframes : names.length + 3 < R.frames) (hRlocals : (rest.map fun v => v.category).sum + (13 * (names.length + 1) + 42) ≤ R.locals) (hRcells : cells + 1 ≤ R.cells) (hRslots : slots + 6 ≤ R.slots) (hlocks : meth.locks = false)
    (hx : ∀ t : State, s.vm.Alike t.vm → H.size ≤ t.heap.size → (∀ q : Nat, q < H.size → t.heap[q]? = H[q]?) → XC cls s t)
    (hf : ∀ z ∈ locs, free z.base) (hc : cells + 1 ≤ mc) (hs : slots + 6 ≤ ms) :
    W p l e R s m args below meth c H locs cells slots (vx_MQ below Qc XC args s mc ms free) (F0 m pc ls rest) := by
  intro T hT X
  have htr : e.platform.stackTraces = false := (show e.platform.stackTraces = l.stackTraces by rw [X.admits.platform]).trans hl
  have Y := vx_rebase X (R' := { frames := R.frames, locals := R.locals, cells := 1, slots := 6 }) (Nat.le_refl _) (Nat.le_refl _) hRcells hRslots
  obtain ⟨s', hA⟩ : ∃ z, z = (T.setVm s.vm).setFrames (.invoking m args :: below) := ⟨_, rfl⟩
  rw [← hA] at Y
  have hvm : s'.vm = s.vm := by rw [hA]; rfl
  have hhp : s'.heap = H := by rw [hA]; exact hT
  have hW0 : s.WarmedH s'.vm := by rw [hvm]; exact State.WarmedH.refl s
  have hat' : ∀ w ∈ vx_at0 own ic cls names, w.before args s' = true := fun w hw => vx_ot_at hW0 hvm.symm (hgood w (List.mem_cons_of_mem _ (List.mem_cons_of_mem _ hw))) (hat w hw)
  have hk' : (Cond.classLink own ik cls).before args s' = true := vx_ot_at hW0 hvm.symm (hgood _ List.mem_cons_self) hk
  have hini' : (Cond.initialized cls).before args s' = true := vx_ot_at hW0 hvm.symm (hgood _ (List.mem_cons_of_mem _ List.mem_cons_self)) hini
  have hU' : vx_Zq Bundle.tN "UNASSIGNED_STACK" Bundle.steD A s' s'.heap := by rw [hhp]; exact vx_Zq.moved hW0.alike (hU.kept hS.2.1)
  have hN' : vx_Zq Bundle.tN "SUPPRESSED_SENTINEL" Bundle.listD A s' s'.heap := by rw [hhp]; exact vx_Zq.moved hW0.alike (hN.kept hS.2.1)
  have h : ∀ w ∈ Bundle.ownAtoms0 own ic cls names, w.before args s' = true := vx_own hat' (vx_isRefq hU'.1) (vx_isRefq hN'.1) hU'.2.word hN'.2.word
  have hown' : s'.vm.findClass own = some m.cls := by rw [hvm]; exact hown
  have hins : (Cond.instantiable cls 6).before args s' = true := h _ (by simp [Bundle.ownAtoms0])
  obtain ⟨vm₁, cX, kX, hfX, hkX, -, -, X₁, st1⟩ := Y.newCold hexec (own := own) (C := cls) (index := ik) (n := 6) hown' hk' hins hini'
    (g := F0 m pc ls rest) rfl (by rw [hb]; exact d0) (Nat.le_refl _) (Nat.le_refl _)
  generalize hT1 : (T.setVm vm₁).pushCell { cls := cX, slots := kX.instanceTypes.map defaultValue, vm := .none } = T1 at X₁ st1
  have hcat : (Value.ref T.heap.size).category = 1 := rfl
  have hcellA : T1.heap[T.heap.size]? = some (freshCell cX kX) := by rw [← hT1]; exact State.heap_pushCell_size _ _
  have d3' : decode c.code (pc + 3) = .ok (.dup, 1) := by rw [hb]; exact d3
  obtain ⟨U, hsteps, hrun, hend, hW, hsame, ce, hce, hO⟩ := X₁.ctorThrow0 hexec htr (own := own) (cls := cls) (names := names) (ic := ic) hown' hcls hnames h (fun x hx => nomatch hx) hfX hkX hcellA (by rw [hhp, hT]; exact Nat.le_refl _)
    (g := { method := m, pc := pc + 4, locals := ls, stack := .ref T.heap.size :: .ref T.heap.size :: rest, locked := none }) rfl hsize rfl rfl (rest := rest) rfl
    (by rw [hb]; exact d4) (by rw [hb]; exact d7) hout hRframes (by simp only [List.map_cons, List.sum_cons, hcat]; omega) hlocks
  obtain ⟨f1, f2⟩ := vx_frame hsame
  rw [hhp] at f1 f2
  have hWs : s.WarmedH U.vm := State.WarmedH.trans hW0 hW
  have hcl : s.vm.findClass cls = some ce.cls := by
    have h9 := hO.cls
    rw [hvm] at h9
    exact h9
  have hall : s.sameButNew ({ U with vm := s.vm } : State) locs mc ms := by
    subst hA
    obtain ⟨e1, e2⟩ := hsame
    rw [State.setFrames_setFrames] at e1
    have h2 : (T.setVm s.vm).sameButNew ({ U with vm := s.vm } : State) [] (0 + 1) (0 + 6) := ⟨e1, e2⟩
    have h3 := X.same.trans h2
    rw [List.append_nil] at h3
    exact h3.mono hc hs
  refine ⟨U, ?_, .threw T.heap.size, hrun, hend, Or.inr ⟨T.heap.size, rfl, cls, ce, locs, hx U hWs.alike f1 (fun q hq => f2 q hq (fun z hz => nomatch hz)), hce, hO.vm, hcl, hWs, hall, hf⟩⟩
  refine st1 _ ?_
  show Steps p.tables e below (T1.setTop { method := m, pc := pc + 3, locals := ls, stack := .ref T.heap.size :: rest, locked := none }) _
  jvm_step X₁.here [X₁.here.top, hexec, d3', Value.category]
  exact hsteps
/-- 'throw new E("text")': new; dup; ldc; invokespecial; athrow -/
theorem vx_throwS {cc : ByteArray} {pc : Nat} (hexec : p.tables.exec = Jvm.exec) (hb : c.code = cc) (hl : l.stackTraces = false) {own cls text : String} {names : List String} {ik is ic mc ms sa : Nat} {A : Nat → Prop}
    (hown : s.vm.findClass own = some m.cls) (hcls : Bundle.fit cls = true) (hnames : ∀ n ∈ names, Bundle.fit n = true)
    (hk : (Cond.classLink own ik cls).before args s = true) (hini : (Cond.initialized cls).before args s = true) (hstr : vk_R own is text sa s) (hat : ∀ w ∈ vx_atS own ic cls names, w.before args s = true)
    (hgood : ∀ w ∈ Cond.classLink own ik cls :: Cond.initialized cls :: vx_atS own ic cls names, vx_ot w = true)
    (hU : vx_Zq Bundle.tN "UNASSIGNED_STACK" Bundle.steD A s s.heap) (hN : vx_Zq Bundle.tN "SUPPRESSED_SENTINEL" Bundle.listD A s s.heap) (hS : va_S A s.heap H locs) (hsize : ls.size = c.maxLocals)
    (d0 : decode cc pc = .ok (.new ik, 3)) (d3 : decode cc (pc + 3) = .ok (.dup, 1)) (d4 : decode cc (pc + 4) = .ok (.ldc is, 2)) (d6 : decode cc (pc + 6) = .ok (.invokespecial ic, 3)) (d9 : decode cc (pc + 9) = .ok (.athrow, 1))
    (hout : ∀ x ∈ c.exceptionTable.toList, covers x (pc + 9) = false)
    (hRframes : names.length + 3 < R.frames) (hRlocals : (rest.map fun v => v.category).sum + (13 * (names.length + 1) + 43) ≤ R.locals) (hRcells : cells + 1 ≤ R.cells) (hRslots : slots + 6 ≤ R.slots) (hlocks : meth.locks = false)
    (hx : ∀ t : State, s.vm.Alike t.vm → H.size ≤ t.heap.size → (∀ q : Nat, q < H.size → t.heap[q]? = H[q]?) → XC cls s t)
    (hf : ∀ z ∈ locs, free z.base) (hc : cells + 1 ≤ mc) (hs : slots + 6 ≤ ms) :
    W p l e R s m args below meth c H locs cells slots (vx_MQ below Qc XC args s mc ms free) (F0 m pc ls rest) := by
  intro T hT X
  have htr : e.platform.stackTraces = false := (show e.platform.stackTraces = l.stackTraces by rw [X.admits.platform]).trans hl
  have Y := vx_rebase X (R' := { frames := R.frames, locals := R.locals, cells := 1, slots := 6 }) (Nat.le_refl _) (Nat.le_refl _) hRcells hRslots
  obtain ⟨s', hA⟩ : ∃ z, z = (T.setVm s.vm).setFrames (.invoking m args :: below) := ⟨_, rfl⟩
  rw [← hA] at Y
  have hvm : s'.vm = s.vm := by rw [hA]; rfl
  have hhp : s'.heap = H := by rw [hA]; exact hT
  have hW0 : s.WarmedH s'.vm := by rw [hvm]; exact State.WarmedH.refl s
  have hat' : ∀ w ∈ vx_atS own ic cls names, w.before args s' = true := fun w hw => vx_ot_at hW0 hvm.symm (hgood w (List.mem_cons_of_mem _ (List.mem_cons_of_mem _ hw))) (hat w hw)
  have hk' : (Cond.classLink own ik cls).before args s' = true := vx_ot_at hW0 hvm.symm (hgood _ List.mem_cons_self) hk
  have hini' : (Cond.initialized cls).before args s' = true := vx_ot_at hW0 hvm.symm (hgood _ (List.mem_cons_of_mem _ List.mem_cons_self)) hini
  have hU' : vx_Zq Bundle.tN "UNASSIGNED_STACK" Bundle.steD A s' s'.heap := by rw [hhp]; exact vx_Zq.moved hW0.alike (hU.kept hS.2.1)
  have hN' : vx_Zq Bundle.tN "SUPPRESSED_SENTINEL" Bundle.listD A s' s'.heap := by rw [hhp]; exact vx_Zq.moved hW0.alike (hN.kept hS.2.1)
  have h : ∀ w ∈ Bundle.ownAtoms own ic cls names, w.before args s' = true := vx_own hat' (vx_isRefq hU'.1) (vx_isRefq hN'.1) hU'.2.word hN'.2.word
  have hown' : s'.vm.findClass own = some m.cls := by rw [hvm]; exact hown
  have hins : (Cond.instantiable cls 6).before args s' = true := h _ (by simp [Bundle.ownAtoms])
  obtain ⟨vm₁, cX, kX, hfX, hkX, -, -, X₁, st1⟩ := Y.newCold hexec (own := own) (C := cls) (index := ik) (n := 6) hown' hk' hins hini'
    (g := F0 m pc ls rest) rfl (by rw [hb]; exact d0) (Nat.le_refl _) (Nat.le_refl _)
  generalize hT1 : (T.setVm vm₁).pushCell { cls := cX, slots := kX.instanceTypes.map defaultValue, vm := .none } = T1 at X₁ st1
  have hcat : (Value.ref T.heap.size).category = 1 := rfl
  have hcellA : T1.heap[T.heap.size]? = some (freshCell cX kX) := by rw [← hT1]; exact State.heap_pushCell_size _ _
  have d3' : decode c.code (pc + 3) = .ok (.dup, 1) := by rw [hb]; exact d3
  have d4' : decode c.code (pc + 4) = .ok (.ldc is, 2) := by rw [hb]; exact d4
  have hstr' : vk_R own is text sa s' := vk_R.warm hW0 hstr
  obtain ⟨U, hsteps, hrun, hend, hW, hsame, ce, hce, hO⟩ := X₁.ctorThrowS hexec htr (own := own) (cls := cls) (names := names) (ic := ic) hown' hcls hnames h (fun x hx => nomatch hx) hfX hkX hcellA (by rw [hhp, hT]; exact Nat.le_refl _) (msg := .ref sa) rfl
    (g := { method := m, pc := pc + 6, locals := ls, stack := .ref sa :: .ref T.heap.size :: .ref T.heap.size :: rest, locked := none }) rfl hsize rfl rfl (rest := rest) rfl
    (by rw [hb]; exact d6) (by rw [hb]; exact d9) hout hRframes (by simp only [List.map_cons, List.sum_cons, hcat]; omega) hlocks
  obtain ⟨f1, f2⟩ := vx_frame hsame
  rw [hhp] at f1 f2
  have hWs : s.WarmedH U.vm := State.WarmedH.trans hW0 hW
  have hcl : s.vm.findClass cls = some ce.cls := by
    have h9 := hO.cls
    rw [hvm] at h9
    exact h9
  have hall : s.sameButNew ({ U with vm := s.vm } : State) locs mc ms := by
    subst hA
    obtain ⟨e1, e2⟩ := hsame
    rw [State.setFrames_setFrames] at e1
    have h2 : (T.setVm s.vm).sameButNew ({ U with vm := s.vm } : State) [] (0 + 1) (0 + 6) := ⟨e1, e2⟩
    have h3 := X.same.trans h2
    rw [List.append_nil] at h3
    exact h3.mono hc hs
  refine ⟨U, ?_, .threw T.heap.size, hrun, hend, Or.inr ⟨T.heap.size, rfl, cls, ce, locs, hx U hWs.alike f1 (fun q hq => f2 q hq (fun z hz => nomatch hz)), hce, hO.vm, hcl, hWs, hall, hf⟩⟩
  refine st1 _ ?_
  show Steps p.tables e below (T1.setTop { method := m, pc := pc + 3, locals := ls, stack := .ref T.heap.size :: rest, locked := none }) _
  jvm_step X₁.here [X₁.here.top, hexec, d3', Value.category]
  exact X₁.ldcString hexec (own := own) (text := text) (index := is) (a := sa) hown' hstr'.1 hstr'.2
    (g := { method := m, pc := pc + 4, locals := ls, stack := .ref T.heap.size :: .ref T.heap.size :: rest, locked := none }) rfl d4' _ hsteps
/-- 'throw new E("text")', the text by a wide index -/
theorem vx_throwSW {cc : ByteArray} {pc : Nat} (hexec : p.tables.exec = Jvm.exec) (hb : c.code = cc) (hl : l.stackTraces = false) {own cls text : String} {names : List String} {ik is ic mc ms sa : Nat} {A : Nat → Prop}
    (hown : s.vm.findClass own = some m.cls) (hcls : Bundle.fit cls = true) (hnames : ∀ n ∈ names, Bundle.fit n = true)
    (hk : (Cond.classLink own ik cls).before args s = true) (hini : (Cond.initialized cls).before args s = true) (hstr : vk_R own is text sa s) (hat : ∀ w ∈ vx_atS own ic cls names, w.before args s = true)
    (hgood : ∀ w ∈ Cond.classLink own ik cls :: Cond.initialized cls :: vx_atS own ic cls names, vx_ot w = true)
    (hU : vx_Zq Bundle.tN "UNASSIGNED_STACK" Bundle.steD A s s.heap) (hN : vx_Zq Bundle.tN "SUPPRESSED_SENTINEL" Bundle.listD A s s.heap) (hS : va_S A s.heap H locs) (hsize : ls.size = c.maxLocals)
    (d0 : decode cc pc = .ok (.new ik, 3)) (d3 : decode cc (pc + 3) = .ok (.dup, 1)) (d4 : decode cc (pc + 4) = .ok (.ldc_w is, 3)) (d7 : decode cc (pc + 7) = .ok (.invokespecial ic, 3)) (d10 : decode cc (pc + 10) = .ok (.athrow, 1))
    (hout : ∀ x ∈ c.exceptionTable.toList, covers x (pc + 10) = false)
    (hRframes : names.length + 3 < R.frames) (hRlocals : (rest.map fun v => v.category).sum + (13 * (names.length + 1) + 43) ≤ R.locals) (hRcells : cells + 1 ≤ R.cells) (hRslots : slots + 6 ≤ R.slots) (hlocks : meth.locks = false)
    (hx : ∀ t : State, s.vm.Alike t.vm → H.size ≤ t.heap.size → (∀ q : Nat, q < H.size → t.heap[q]? = H[q]?) → XC cls s t)
    (hf : ∀ z ∈ locs, free z.base) (hc : cells + 1 ≤ mc) (hs : slots + 6 ≤ ms) :
    W p l e R s m args below meth c H locs cells slots (vx_MQ below Qc XC args s mc ms free) (F0 m pc ls rest) := by
  intro T hT X
  have htr : e.platform.stackTraces = false := (show e.platform.stackTraces = l.stackTraces by rw [X.admits.platform]).trans hl
  have Y := vx_rebase X (R' := { frames := R.frames, locals := R.locals, cells := 1, slots := 6 }) (Nat.le_refl _) (Nat.le_refl _) hRcells hRslots
  obtain ⟨s', hA⟩ : ∃ z, z = (T.setVm s.vm).setFrames (.invoking m args :: below) := ⟨_, rfl⟩
  rw [← hA] at Y
  have hvm : s'.vm = s.vm := by rw [hA]; rfl
  have hhp : s'.heap = H := by rw [hA]; exact hT
  have hW0 : s.WarmedH s'.vm := by rw [hvm]; exact State.WarmedH.refl s
  have hat' : ∀ w ∈ vx_atS own ic cls names, w.before args s' = true := fun w hw => vx_ot_at hW0 hvm.symm (hgood w (List.mem_cons_of_mem _ (List.mem_cons_of_mem _ hw))) (hat w hw)
  have hk' : (Cond.classLink own ik cls).before args s' = true := vx_ot_at hW0 hvm.symm (hgood _ List.mem_cons_self) hk
  have hini' : (Cond.initialized cls).before args s' = true := vx_ot_at hW0 hvm.symm (hgood _ (List.mem_cons_of_mem _ List.mem_cons_self)) hini
  have hU' : vx_Zq Bundle.tN "UNASSIGNED_STACK" Bundle.steD A s' s'.heap := by rw [hhp]; exact vx_Zq.moved hW0.alike (hU.kept hS.2.1)
  have hN' : vx_Zq Bundle.tN "SUPPRESSED_SENTINEL" Bundle.listD A s' s'.heap := by rw [hhp]; exact vx_Zq.moved hW0.alike (hN.kept hS.2.1)
  have h : ∀ w ∈ Bundle.ownAtoms own ic cls names, w.before args s' = true := vx_own hat' (vx_isRefq hU'.1) (vx_isRefq hN'.1) hU'.2.word hN'.2.word
  have hown' : s'.vm.findClass own = some m.cls := by rw [hvm]; exact hown
  have hins : (Cond.instantiable cls 6).before args s' = true := h _ (by simp [Bundle.ownAtoms])
  obtain ⟨vm₁, cX, kX, hfX, hkX, -, -, X₁, st1⟩ := Y.newCold hexec (own := own) (C := cls) (index := ik) (n := 6) hown' hk' hins hini'
    (g := F0 m pc ls rest) rfl (by rw [hb]; exact d0) (Nat.le_refl _) (Nat.le_refl _)
  generalize hT1 : (T.setVm vm₁).pushCell { cls := cX, slots := kX.instanceTypes.map defaultValue, vm := .none } = T1 at X₁ st1
  have hcat : (Value.ref T.heap.size).category = 1 := rfl
  have hcellA : T1.heap[T.heap.size]? = some (freshCell cX kX) := by rw [← hT1]; exact State.heap_pushCell_size _ _
  have d3' : decode c.code (pc + 3) = .ok (.dup, 1) := by rw [hb]; exact d3
  have d4' : decode c.code (pc + 4) = .ok (.ldc_w is, 3) := by rw [hb]; exact d4
  have hstr' : vk_R own is text sa s' := vk_R.warm hW0 hstr
  obtain ⟨U, hsteps, hrun, hend, hW, hsame, ce, hce, hO⟩ := X₁.ctorThrowS hexec htr (own := own) (cls := cls) (names := names) (ic := ic) hown' hcls hnames h (fun x hx => nomatch hx) hfX hkX hcellA (by rw [hhp, hT]; exact Nat.le_refl _) (msg := .ref sa) rfl
    (g := { method := m, pc := pc + 7, locals := ls, stack := .ref sa :: .ref T.heap.size :: .ref T.heap.size :: rest, locked := none }) rfl hsize rfl rfl (rest := rest) rfl
    (by rw [hb]; exact d7) (by rw [hb]; exact d10) hout hRframes (by simp only [List.map_cons, List.sum_cons, hcat]; omega) hlocks
  obtain ⟨f1, f2⟩ := vx_frame hsame
  rw [hhp] at f1 f2
  have hWs : s.WarmedH U.vm := State.WarmedH.trans hW0 hW
  have hcl : s.vm.findClass cls = some ce.cls := by
    have h9 := hO.cls
    rw [hvm] at h9
    exact h9
  have hall : s.sameButNew ({ U with vm := s.vm } : State) locs mc ms := by
    subst hA
    obtain ⟨e1, e2⟩ := hsame
    rw [State.setFrames_setFrames] at e1
    have h2 : (T.setVm s.vm).sameButNew ({ U with vm := s.vm } : State) [] (0 + 1) (0 + 6) := ⟨e1, e2⟩
    have h3 := X.same.trans h2
    rw [List.append_nil] at h3
    exact h3.mono hc hs
  refine ⟨U, ?_, .threw T.heap.size, hrun, hend, Or.inr ⟨T.heap.size, rfl, cls, ce, locs, hx U hWs.alike f1 (fun q hq => f2 q hq (fun z hz => nomatch hz)), hce, hO.vm, hcl, hWs, hall, hf⟩⟩
  refine st1 _ ?_
  show Steps p.tables e below (T1.setTop { method := m, pc := pc + 3, locals := ls, stack := .ref T.heap.size :: rest, locked := none }) _
  jvm_step X₁.here [X₁.here.top, hexec, d3', Value.category]
  exact X₁.ldcStringW hexec (own := own) (text := text) (index := is) (a := sa) hown' hstr'.1 hstr'.2
    (g := { method := m, pc := pc + 4, locals := ls, stack := .ref T.heap.size :: .ref T.heap.size :: rest, locked := none }) rfl d4' _ hsteps
end Ends
section Bodies
variable {l : Launch}
theorem vx_ofW {y : MethodName} {ws ws' : List Cond} {rm : Room} {Pc : Array Value → State → Prop} {Qc : Array Value → State → Outcome → State → Prop} {XC : String → State → State → Prop} {mc ms : Nat} {free : Addr → Prop} {cc : ByteArray} {maxL : Nat} {ret : Option FieldType}
    (hy : plainName y.cls = true) (hw : ws = Cond.code y cc maxL ret :: ws')
    (body : ∀ p e s m args below meth c s₁, BodyLoose p l y (headSpec ws rm) cc maxL ret e s m args below meth c s₁ → c.maxLocals = maxL → (∀ x ∈ c.exceptionTable.toList, False) → Pc args s →
      W p l e (headSpec ws rm).room s m args below meth c s.heap [] 0 0 (vx_MQ below Qc XC args s mc ms free) (entryFrame m args maxL)) : vx_Met l y ws rm Pc Qc XC mc ms free := by
  refine MetFree.of_bodyS (code := cc) (maxLocals := maxL) (ret := ret) hy ?_ ?_
  · intro args s m h hn
    obtain ⟨meth, c, h1, h2, h3, h4, h5, h6, -, -⟩ := Cond.code_spec hn (atoms_spec (ws := ws) h _ (by rw [hw]; exact List.mem_cons_self))
    exact ⟨meth, c, h1, h2, h3, h4, h5, h6⟩
  · intro p e s m args below meth c s₁ B hml hP _
    have hh0 : s₁.heap = s.heap := by rw [B.state]; rfl
    have ht : ∀ x ∈ c.exceptionTable.toList, False := by
      obtain ⟨meth9, c9, h1, h2, -, -, -, -, h7, -⟩ := Cond.code_spec B.named (atoms_spec (ws := ws) B.pre _ (by rw [hw]; exact List.mem_cons_self))
      cases Option.some.inj (h1.symm.trans B.method)
      cases Option.some.inj (h2.symm.trans (Stand.of_body B).code)
      intro x hx
      rw [Array.isEmpty_iff.mp h7] at hx
      cases hx
    obtain ⟨t, a1, o, b1, b2, b3⟩ := body p e s m args below meth c s₁ B hml ht hP s₁ hh0 (Stand.of_body B)
    exact ⟨t, o, a1, b1, b2, b3⟩
/-- the table of a body with handlers -/
theorem vx_table {p : Program} {x y : MethodName} {S : Spec} {cc bytes : ByteArray} {maxL maxL' : Nat} {ret ret' : Option FieldType} {e : Env} {s s₁ : State} {m : MethodId} {args : Array Value} {below : List Frame} {meth : Method} {c : Code} {hh : List (Nat × Nat × Nat × Nat)}
    (B : BodyLoose p l y S cc maxL ret e s m args below meth c s₁) (h : (Cond.codeWith y bytes maxL' ret' hh).before args s = true) : c.exceptionTable.toList = tableOf hh := by
  obtain ⟨m9, meth9, c9, hn9, h1, h2, -, -, h6, -⟩ := Cond.codeWith_spec h
  cases Option.some.inj (hn9.symm.trans B.named)
  cases Option.some.inj (h1.symm.trans B.method)
  cases Option.some.inj (h2.symm.trans (Stand.of_body B).code)
  rw [← h6, table_eq]
end Bodies
end VXA
/-! ===== END ===== -/
/-! ===== BEGIN a static call of a method with an exception table ===== -/
section VXS
variable {p : Program} {l : Launch} {e : Env} {R : Room} {s : State} {m : MethodId} {args : Array Value} {below : List Frame} {meth : Method} {c : Code} {T : State} {H : Heap} {locs : List Loc} {cells slots : Nat}
abbrev vx_CSW (R : Room) (s : State) (args : Array Value) (own : String) (index : Nat) (y : MethodName) (bytes : ByteArray) (maxL : Nat) (ret : Option FieldType) (hh : List (Nat × Nat × Nat × Nat)) (ws : List Cond) (rm : Room) (mc ms n : Nat) : Prop :=
  (rm.cells = mc ∧ rm.slots = ms ∧ rm.frames + 1 ≤ R.frames ∧ 8 + (maxL + 11) + rm.locals ≤ R.locals ∧ (∀ w ∈ ws, ∀ (a' : Array Value) (U : State), s.WarmedH U.vm → w.before a' U = true) ∧ Cond.codeWith y bytes maxL ret hh ∈ ws) ∧
  (Cond.codeWith y bytes maxL ret hh).before args s = true ∧ (Cond.initialized y.cls).before args s = true ∧ (y.cls ≠ "java/lang/invoke/MethodHandle" ∧ y.cls ≠ "java/lang/invoke/VarHandle") ∧
  (∀ sig, parseMethodDescriptor y.desc = some sig → n = sig.parameters.length) ∧ (Cond.methodLink own index y).before args s = true ∧ (Cond.static y).before args s = true
theorem vx_cwSW {own : String} {index maxL mc ms : Nat} {y : MethodName} {bytes : ByteArray} {ret : Option FieldType} {hh : List (Nat × Nat × Nat × Nat)} {Ts ws ws' : List Cond} {rm : Room} (n : Nat) (ht : ∀ w ∈ Ts, w.before args s = true) (hT : GoodIn Ts (va_wsS own index y ws)) (hw : ws = Cond.codeWith y bytes maxL ret hh :: ws') (hrc : rm.cells = mc) (hrs : rm.slots = ms)
    (hd : y.cls ≠ "java/lang/invoke/MethodHandle" ∧ y.cls ≠ "java/lang/invoke/VarHandle" ∧ (parseMethodDescriptor y.desc).map (fun d => d.parameters.length) = some n) (hR : rm.frames + 1 ≤ R.frames ∧ 8 + (maxL + 11) + rm.locals ≤ R.locals) :
    vx_CSW R s args own index y bytes maxL ret hh ws rm mc ms n := by
  have ok : ∀ w ∈ va_wsS own index y ws, w.before args s = true := fun w h => ht w (hT w h).1
  have hG : GoodIn Ts ws := fun w h => hT w (by unfold va_wsS; exact List.mem_append_right _ h)
  have hc : Cond.codeWith y bytes maxL ret hh ∈ ws := by rw [hw]; exact List.mem_cons_self
  refine ⟨⟨hrc, hrs, hR.1, hR.2, pay_in ht hG, hc⟩, ht _ (hG _ hc).1, ok _ (by simp [va_wsS]), ⟨hd.1, hd.2.1⟩, fun sig h => ?_, ok _ (by simp [va_wsS]), ok _ (by simp [va_wsS])⟩
  have h2 := hd.2.2
  rw [h] at h2
  exact (Option.some.inj h2).symm
theorem vx_callSW (X : Stand p l e R s m args below meth c T locs cells slots) (hexec : p.tables.exec = Jvm.exec) {own : String} {index : Nat} {y : MethodName} {bytes : ByteArray} {maxL : Nat} {ret : Option FieldType} {hh : List (Nat × Nat × Nat × Nat)}
    (hown : s.vm.findClass own = some m.cls) (hlink : (Cond.methodLink own index y).before args s = true) (hstat : (Cond.static y).before args s = true) (hinit : (Cond.initialized y.cls).before args s = true)
    (hcode : (Cond.codeWith y bytes maxL ret hh).before args s = true) (hy : y.cls ≠ "java/lang/invoke/MethodHandle" ∧ y.cls ≠ "java/lang/invoke/VarHandle")
    {W9 : Nat} {Pre : Pt → Array Value → Prop} {Post : Pt → Array Value → Option Value → Pt → Prop} (hK : Back l R p e below s args y 3 W9 Pre Post)
    {g : JFrame} (hg : g.method = m) (hsize : g.locals.size = c.maxLocals) {argsL rest : List Value} (hlen : ∀ sig, parseMethodDescriptor y.desc = some sig → argsL.length = sig.parameters.length)
    (hstack : g.stack = argsL.reverse ++ rest) (hW : 2 * g.monitorRoom + (rest.map fun v => v.category).sum ≤ W9) (hdg : decode c.code g.pc = .ok (.invokestatic index, 3))
    (hpre : ∀ vm₁, s.WarmedH vm₁ → Pre ⟨T.setVm vm₁, locs, cells, slots⟩ argsL.toArray) :
    ∃ (v : Option Value) (vm₁ : Vm) (B : Pt), s.WarmedH vm₁ ∧ Stand p l e R s m args below meth c B.U B.locs B.cells B.slots ∧ Post ⟨T.setVm vm₁, locs, cells, slots⟩ argsL.toArray v B ∧
      ∀ target, Steps p.tables e below (B.U.setTop { g with pc := g.pc + 3, stack := v.toList ++ rest }) target → Steps p.tables e below (T.setTop g) target := by
  obtain ⟨mk, methM, cM, hnamed, hmethM, -, -, -, -, -, -, hsigM⟩ := Cond.codeWith_spec hcode
  have hstatic : methM.isStatic = true := Cond.static_spec hnamed hmethM hstat
  obtain ⟨kP, hkP, -⟩ := className_of_methodNamed hnamed
  have hinitP : kP.init = .initialized := Cond.initialized_spec (findClass_of_methodNamed hnamed) hkP hinit
  obtain ⟨vm₁, X₁, hstep₁⟩ := X.invokestatic hexec hown hlink hnamed hmethM hstatic hkP hinitP hy (g := g) hg (argsL := argsL) (rest := rest) (hlen _ hsigM) hstack hdg
  obtain ⟨v, B, X', hpost, hsteps⟩ := hK m meth c ⟨T.setVm vm₁, locs, cells, slots⟩ { g with stack := rest } (.invokestatic index) mk argsL.toArray X₁ hg hsize hdg hW (X₁.named hnamed) (hpre vm₁ X₁.warmed)
  exact ⟨v, vm₁, B, X₁.warmed, X', hpost, fun target h => hstep₁ _ fun acts => by rw [doInvoke_state]; exact hsteps.trans h⟩
theorem vx_runSW {y : MethodName} {bytes cc : ByteArray} {maxL nL mc ms n index : Nat} {ret : Option FieldType} {hh : List (Nat × Nat × Nat × Nat)} {ws : List Cond} {rm : Room} {Pc : Array Value → State → Prop} {Qc : Array Value → State → Outcome → State → Prop} {free : Addr → Prop} {Ts : List Cond} {own : String} {As rest : List Value} {g : JFrame}
    (S : CallFix p m c cc nL s args Ts own) (hM : Met l y ws rm Pc Qc mc ms free) (cw : vx_CSW R s args own index y bytes maxL ret hh ws rm mc ms n) (hp : PreS s H Pc As)
    (hg : g.method = m) (hn : As.length = n) (hsize : g.locals.size = nL) (hstack : g.stack = As.reverse ++ rest) (hW : 2 * g.monitorRoom + (rest.map fun v => v.category).sum ≤ 8) (hdg : decode cc g.pc = .ok (.invokestatic index, 3)) (hf : cells + mc ≤ R.cells ∧ slots + ms ≤ R.slots) :
    va_Run p l e R s m args below meth c H locs cells slots mc ms g rest (Qc As.toArray) (free) := by
  obtain ⟨⟨hrc, hrs, hfr, hlo, hws, hcw⟩, hcode, hini, hy, hlen, hl, hstt⟩ := cw
  have hK : Back l R p e below s args y 3 8 (PreOf R mc ms Pc) (PostOf Qc mc ms free) := va_backW (hh := hh) (bytes := bytes) (maxL := maxL) (ret := ret) hM hp.1 hrc hrs hfr hlo hws hcw (fun a' U hW => word_at hW (Or.inl (by first | rfl | simp [Cond.onTables, Cond.keeps, Cond.steady])) hini)
  obtain ⟨hx, hb, hml, ho, -⟩ := S
  intro T hT X
  obtain ⟨v, vm₁, ⟨U', l2, c2, s2⟩, hW₁, X', ⟨g', mk, t, L, e1, e2, hq, h1, hL, h2, h3⟩, st⟩ := vx_callSW X hx (hh := hh) (bytes := bytes) (maxL := maxL) (ret := ret) ho hl hstt hini hcode hy hK hg (hsize.trans hml.symm) (argsL := As) (rest := rest) (fun sig h => hn.trans (hlen sig h)) hstack hW (by rw [hb]; exact hdg)
    (fun vm₁ hW₁ => ⟨hf.1, hf.2, hp.2 (T.setVm vm₁) hT hW₁⟩)
  dsimp only [Pt.U, Pt.locs, Pt.cells, Pt.slots] at X' e1 e2 h1 h2 h3 st
  subst h1; subst h2; subst h3
  exact ⟨v, (T.setVm vm₁).calling g' mk As.toArray, t, U', L, hT, X', hL, e1, e2, hq, st⟩
/-- not caught here, past rows that name other classes: it goes on to the caller -/
theorem vx_outP {p : Program} {l : Launch} {e : Env} {R : Room} {s : State} {m : MethodId} {args : Array Value} {below : List Frame} {meth : Method} {c : Code} {H : Heap} {locs : List Loc} {cells slots : Nat} {free : Addr → Prop} {ls : Array Slot} {rest : List Value} {Qc : Array Value → State → Outcome → State → Prop} {XC : String → State → State → Prop}
    {pc : Nat} {own E : String} {ce : Cell} {q : Addr} {mc ms : Nat} (hown : s.vm.findClass own = some m.cls) (hlocks : meth.locks = false)
    (hpass : ∀ z ∈ c.exceptionTable.toList, covers z pc = false ∨ (z.catchType ≠ 0 ∧ ∃ nm : String, (Cond.classLink own z.catchType nm).before args s = true ∧ va_Nc E nm s)) (hcell : H[q]? = some ce) (hv : ce.vm = .none) (hcl : s.vm.findClass E = some ce.cls)
    (hx : ∀ t : State, t.heap = H → s.vm.Alike t.vm → XC E s t) (hf : ∀ z ∈ locs, free z.base) (hc : cells ≤ mc) (hs : slots ≤ ms) :
    vx_W p l e R s m args below meth c H locs cells slots (vx_MQ below Qc XC args s mc ms free) (F0 m pc ls rest) q := by
  intro T hT X
  have hpl : e.platform.magicAccessors = ({} : Platform).magicAccessors := by rw [X.admits.platform]
  obtain ⟨vm', hW', X', st⟩ := X.outThrough hlocks q (g := F0 m pc ls rest) rfl rfl rfl (cell := ce) (by rw [hT]; exact hcell) (by rw [hv]; rfl)
    (by obtain ⟨k9, h9, -⟩ := Vm.findClass_spec hcl; exact ⟨k9, h9⟩) (fun z hz => by
      rcases hpass z hz with h | ⟨hz0, nm, hl1, hn1⟩
      · exact Or.inl h
      · obtain ⟨c6, hc6, hcl6⟩ := Cond.classLink_spec hown hl1 e.platform hpl
        obtain ⟨a8, b8, h1, h2, h3⟩ := hn1
        cases Option.some.inj (h1.symm.trans hcl)
        cases Option.some.inj (h2.symm.trans hc6)
        exact Or.inr ⟨hz0, _, hcl6, h3⟩)
  obtain ⟨g₀, hfr⟩ := X'.frames_eq
  have hcell9 : ((T.setVm vm').setFrames (.throwing q :: below)).heap[q]? = some ce := by
    show T.heap[q]? = some ce
    rw [hT]; exact hcell
  have hend : Ended ((T.setVm vm').setFrames (.throwing q :: below)) below (.threw q) := State.frames_setFrames _ (State.cur_lt_of_frames hfr)
  refine ⟨(T.setVm vm').setFrames (.throwing q :: below), ?_, .threw q, X'.here.running, hend, Or.inr ⟨q, rfl, E, ce, locs, hx _ hT (X'.ends _).1.alike, hcell9, hv, hcl, (X'.ends _).1, (X'.ends _).2.mono hc hs, hf⟩⟩
  rw [X.pushThrowing_eq]
  exact st
/-- a thing of a world lies in the heap -/
theorem vx_lt {D : va_G} {cl : List vw_C} {ws : va_W} {H1 : Heap} (h : va_P D cl ws H1) {k : Nat} {q : Nat × va_E} (hk : ws[k]? = some q) : q.1 < H1.size := (h k q hk).lt
end VXS
/-! ===== END ===== -/
/-! ===== BEGIN methods with a table of their own: called by a name, returning or throwing ===== -/
section VXH
/-! vx_backW, vx_callVX, vx_callSX, vx_callVW, vx_runVW, vx_runVX, vx_runSX, vx_ofWH follow the same proofs as their sisters above (Free/Laws.lean, Shelf42/LK1.lean); vx_outP calls Shelf42/NT130.lean (outThrough). -/
section
variable {l : Launch} {R : Room} {p : Program} {e : Env} {below : List Frame} {s : State} {sargs : Array Value} {y : MethodName} {len W9 : Nat}
theorem vx_backW {ws : List Cond} {rm : Room} {Pc : Array Value → State → Prop} {Qc : Array Value → State → Outcome → State → Prop} {XC : String → State → State → Prop} {mc ms : Nat} {free : Addr → Prop} {bytes : ByteArray} {maxL : Nat} {ret : Option FieldType} {hh : List (Nat × Nat × Nat × Nat)}
    (hM : vx_Met l y ws rm Pc Qc XC mc ms free) (hblind : FrameBlind Pc) (hrc : rm.cells = mc) (hrs : rm.slots = ms)
    (hframes : rm.frames + 1 ≤ R.frames) (hlocals : W9 + (maxL + 11) + rm.locals ≤ R.locals)
    (hws : ∀ w ∈ ws, ∀ a' U, s.WarmedH U.vm → w.before a' U = true) (hcode : Cond.codeWith y bytes maxL ret hh ∈ ws) (hinit : ∀ a' U, s.WarmedH U.vm → (Cond.initialized y.cls).before a' U = true) :
    vx_Back l R p e below s sargs y len W9 (PreOf R mc ms Pc) (PostOf Qc mc ms free) (vx_Post XC mc ms free) := by
  intro m meth c A g ig mk a X hg hsize hdg hW hn hp
  have h1 : (headSpec ws rm).pre.before a A.U = true := atoms_intro fun w hw => hws w hw _ _ X.warmed
  have h2 : (Cond.codeWith y bytes maxL ret hh).before a A.U = true := hws _ hcode _ _ X.warmed
  have h3 : (Cond.initialized y.cls).before a A.U = true := hinit _ _ X.warmed
  have h4 : A.cells + (headSpec ws rm).room.cells ≤ R.cells := by rw [show (headSpec ws rm).room.cells = mc from hrc]; exact hp.1
  have h5 : A.slots + (headSpec ws rm).room.slots ≤ R.slots := by rw [show (headSpec ws rm).room.slots = ms from hrs]; exact hp.2.1
  have hPc : Pc a (A.U.calling g mk a) := hblind _ _ _ _ hp.2.2
  obtain ⟨U, Ls, c0, s0⟩ := A
  dsimp only [Pt.U, Pt.locs, Pt.cells, Pt.slots] at h1 h2 h3 h4 h5 X hn hPc ⊢
  obtain ⟨m9, methY, cY, hn9, hmY, hcY, -, hlY, -⟩ := Cond.codeWith_spec h2
  cases Option.some.inj (hn9.symm.trans hn)
  obtain ⟨kY, hkY, -⟩ := className_of_methodNamed hn
  have hinitY : kY.init = .initialized := Cond.initialized_spec (findClass_of_methodNamed hn) hkY h3
  have h : At U g.method c below := by rw [hg]; exact X.here
  have hlocals9 : W9 + (maxL + 11) + (headSpec ws rm).room.locals ≤ R.locals := hlocals
  have happ : (headSpec ws rm).appliesLoose y e.platform (U.calling g mk a) = true :=
    Spec.appliesLoose_calling (g := g) h hdg hn hkY hinitY
      (X.room_calling (g := g) (R' := (headSpec ws rm).room) hsize hmY hcY hframes (by rw [hlY]; omega) h4 h5) h1
  obtain ⟨mid, hmid⟩ := h.above
  have hfr : (U.setTop g).frames = (.java g :: mid) ++ below := by rw [State.frames_setTop' g h.top, hmid]; rfl
  obtain ⟨o, s₂, hsteps, -, hend, hq⟩ := Steps.callFree hM p X.admits X.cas X.clock (acts := []) hfr happ hPc trivial
  have hq' : vx_Q Qc XC mc ms free a (U.calling g mk a) o s₂ := hq
  rw [State.frames_setTop' g h.top] at hend
  obtain ⟨g₀, hg0⟩ := Option.isSome_iff_exists.mp h.top
  obtain ⟨r, hr⟩ := State.topJava?_eq_some.mp hg0
  have hr' : (({ U with heap := s₂.heap, slotsUsed := s₂.slotsUsed } : State).setVm s₂.vm).frames = .java g₀ :: r := hr
  rcases hq' with ⟨hqc, L, hfe, hL⟩ | ⟨q, rfl, E, ce, L, hx, hce, hcv, hcl, hW₂, hsm, hL⟩
  · obtain ⟨⟨v, rfl⟩, hW₂, e2, q2, q3, q4, q5, q6⟩ := id hfe
    have e3 : s₂ = ({ (U.calling g mk a).setFrames s₂.frames with heap := s₂.heap, slotsUsed := s₂.slotsUsed } : State).setVm s₂.vm := by
      have : s₂ = ({ s₂ with vm := (U.calling g mk a).vm } : State).setVm s₂.vm := rfl
      rw [e2] at this
      exact this
    obtain ⟨c₂, i₂, len₂, hc₂, hd₂, hf₂⟩ := hend
    have hW' : U.WarmedH s₂.vm := hW₂
    have hcc : c₂ = c := by
      have h1 : s₂.code? g.method = U.code? g.method := by
        rw [State.code?_eq, State.code?_eq, hW'.alike.method?]
      exact Option.some.inj (hc₂.symm.trans (h1.trans h.code))
    subst hcc
    have hlen : len₂ = len := by rw [hdg] at hd₂; cases hd₂; rfl
    subst hlen
    have hs₂ : s₂ = (({ U with heap := s₂.heap, slotsUsed := s₂.slotsUsed } : State).setVm s₂.vm).setTop { g with pc := g.pc + len₂, stack := v.toList ++ g.stack } := by
      refine e3.trans ?_
      rw [hf₂, State.calling_eq h.top, State.setFrames_setFrames, State.setTop_of_frames _ hr', hr]
      rfl
    have hsame : U.sameButNew ({ U with heap := s₂.heap, slotsUsed := s₂.slotsUsed } : State) L mc ms := by
      refine ⟨?_, q2, q3, q4, q5, q6⟩
      obtain ⟨t, ht, -⟩ := State.frames_cons hr
      show ({ U with heap := s₂.heap, slotsUsed := s₂.slotsUsed } : State) = { U.setFrames U.frames with heap := s₂.heap, slotsUsed := s₂.slotsUsed }
      rw [State.setFrames_self ht]
    subst hg
    refine Or.inl ⟨v, ⟨(({ U with heap := s₂.heap, slotsUsed := s₂.slotsUsed } : State).setVm s₂.vm), Ls ++ L, c0 + mc, s0 + ms⟩,
      ⟨X.admits, X.cas, X.clock, X.frames, X.room, X.hears, X.method, X.code, (X.here.setHeapUsed s₂.heap s₂.slotsUsed).setVm hW'.alike, X.tail, State.WarmedH.trans X.warmed hW', X.limits, X.bytes, X.same.trans (hsame.setVm s.vm)⟩,
      ⟨g, mk, s₂, L, rfl, rfl, hqc, rfl, hL, rfl, rfl⟩, ?_⟩
    show Steps p.tables e below _ ((({ U with heap := s₂.heap, slotsUsed := s₂.slotsUsed } : State).setVm s₂.vm).setTop { g with pc := g.pc + len₂, stack := v.toList ++ g.stack })
    rw [← hs₂]
    exact hsteps
  · obtain ⟨e2, q2, q3, q4, q5, q6⟩ := id hsm
    have e3 : s₂ = ({ (U.calling g mk a).setFrames s₂.frames with heap := s₂.heap, slotsUsed := s₂.slotsUsed } : State).setVm s₂.vm := by
      have : s₂ = ({ s₂ with vm := (U.calling g mk a).vm } : State).setVm s₂.vm := rfl
      rw [e2] at this
      exact this
    have hf₂ : s₂.frames = .throwing q :: .java g :: U.frames.tail := hend
    have hW' : U.WarmedH s₂.vm := hW₂
    have hs₂ : s₂ = ((({ U with heap := s₂.heap, slotsUsed := s₂.slotsUsed } : State).setVm s₂.vm).setTop g).pushFrame (.throwing q) := by
      refine e3.trans ?_
      rw [hf₂, State.calling_eq h.top, State.setFrames_setFrames, State.pushFrame, State.frames_setTop _ hr', State.setTop_of_frames _ hr', State.setFrames_setFrames, hr]
      rfl
    have hsame : U.sameButNew ({ U with heap := s₂.heap, slotsUsed := s₂.slotsUsed } : State) L mc ms := by
      refine ⟨?_, q2, q3, q4, q5, q6⟩
      obtain ⟨t, ht, -⟩ := State.frames_cons hr
      show ({ U with heap := s₂.heap, slotsUsed := s₂.slotsUsed } : State) = { U.setFrames U.frames with heap := s₂.heap, slotsUsed := s₂.slotsUsed }
      rw [State.setFrames_self ht]
    subst hg
    refine Or.inr ⟨q, ⟨(({ U with heap := s₂.heap, slotsUsed := s₂.slotsUsed } : State).setVm s₂.vm), Ls ++ L, c0 + mc, s0 + ms⟩,
      ⟨X.admits, X.cas, X.clock, X.frames, X.room, X.hears, X.method, X.code, (X.here.setHeapUsed s₂.heap s₂.slotsUsed).setVm hW'.alike, X.tail, State.WarmedH.trans X.warmed hW', X.limits, X.bytes, X.same.trans (hsame.setVm s.vm)⟩,
      ⟨g, mk, s₂, L, E, ce, rfl, rfl, hx, hce, hcv, hcl, rfl, hL, rfl, rfl⟩, ?_⟩
    show Steps p.tables e below _ (((({ U with heap := s₂.heap, slotsUsed := s₂.slotsUsed } : State).setVm s₂.vm).setTop g).pushFrame (.throwing q))
    rw [← hs₂]
    exact hsteps
end
variable {p : Program} {l : Launch} {e : Env} {R : Room} {s : State} {m : MethodId} {args : Array Value} {below : List Frame} {meth : Method} {c : Code} {T : State} {H : Heap} {locs : List Loc} {cells slots : Nat}
theorem vx_callVX (X : Stand p l e R s m args below meth c T locs cells slots) (hexec : p.tables.exec = Jvm.exec) {own C : String} {index : Nat} {y : MethodName} {bytes : ByteArray} {maxL : Nat} {ret : Option FieldType} {hh : List (Nat × Nat × Nat × Nat)}
    (hown : s.vm.findClass own = some m.cls) (hlink : (Cond.methodLink own index y).before args s = true) (hinst : (Cond.instanceMethod y).before args s = true) (hsel : (Cond.selects C y y).before args s = true)
    (hcode : (Cond.codeWith y bytes maxL ret hh).before args s = true) (hy : y.cls ≠ "java/lang/invoke/MethodHandle" ∧ y.cls ≠ "java/lang/invoke/VarHandle")
    {W9 : Nat} {Pre : Pt → Array Value → Prop} {Post : Pt → Array Value → Option Value → Pt → Prop} {PostX : Pt → Array Value → Addr → Pt → Prop} (hK : vx_Back l R p e below s args y 3 W9 Pre Post PostX)
    {b : Addr} {cellB : Cell} (hcell : T.heap[b]? = some cellB) (hobj : cellB.vm.isStatics = false) (hcls : s.vm.findClass C = some cellB.cls)
    {g : JFrame} (hg : g.method = m) (hsize : g.locals.size = c.maxLocals) {argsL rest : List Value} (hlen : ∀ sig, parseMethodDescriptor y.desc = some sig → argsL.length = sig.parameters.length)
    (hstack : g.stack = argsL.reverse ++ .ref b :: rest) (hW : 2 * g.monitorRoom + (rest.map fun v => v.category).sum ≤ W9) (hdg : decode c.code g.pc = .ok (.invokevirtual index, 3))
    (hpre : ∀ vm₁, s.WarmedH vm₁ → Pre ⟨T.setVm vm₁, locs, cells, slots⟩ (Value.ref b :: argsL).toArray) :
    (∃ (v : Option Value) (vm₁ : Vm) (B : Pt), s.WarmedH vm₁ ∧ Stand p l e R s m args below meth c B.U B.locs B.cells B.slots ∧ Post ⟨T.setVm vm₁, locs, cells, slots⟩ (Value.ref b :: argsL).toArray v B ∧
      ∀ target, Steps p.tables e below (B.U.setTop { g with pc := g.pc + 3, stack := v.toList ++ rest }) target → Steps p.tables e below (T.setTop g) target) ∨
    (∃ (q : Addr) (vm₁ : Vm) (B : Pt), s.WarmedH vm₁ ∧ Stand p l e R s m args below meth c B.U B.locs B.cells B.slots ∧ PostX ⟨T.setVm vm₁, locs, cells, slots⟩ (Value.ref b :: argsL).toArray q B ∧
      Steps p.tables e below (T.setTop g) ((B.U.setTop { g with stack := rest }).pushFrame (.throwing q))) := by
  obtain ⟨mk, methM, hnamed, hmethM, hstM, habM⟩ := Cond.instanceMethod_spec hinst
  obtain ⟨m8, methM', cM, hn8, hmethM', -, -, -, -, -, -, hsigM⟩ := Cond.codeWith_spec hcode
  cases Option.some.inj (hn8.symm.trans hnamed)
  cases hmethM.symm.trans hmethM'
  obtain ⟨c2, r2, m2, q1, q2, q3, q4, kP, hkP, hkPi⟩ := Cond.selects_spec hsel
  cases hcls.symm.trans q1
  cases (State.methodFound?_of_named hnamed hy).symm.trans q2
  cases hnamed.symm.trans q3
  have hselP : selectMethod e.platform s.vm cellB.cls mk = .method mk := by rw [Launch.admits_selectMethod X.admits]; exact q4
  obtain ⟨vm₁, X₁, hstep₁⟩ := X.invokevirtual hexec hown hlink hnamed hmethM hstM hkP hkPi hy (a := b) (cell := cellB) hcell
    (fun z h => by rw [h] at hobj; cases hobj) hselP hmethM habM hkP hkPi (g := g) hg (argsL := argsL) (rest := rest) (hlen _ hsigM) hstack hdg
  rcases hK m meth c ⟨T.setVm vm₁, locs, cells, slots⟩ { g with stack := rest } (.invokevirtual index) mk (Value.ref b :: argsL).toArray X₁ hg hsize hdg hW (X₁.named hnamed) (hpre vm₁ X₁.warmed) with ⟨v, B, X', hpost, hsteps⟩ | ⟨q, B, X', hpost, hsteps⟩
  · exact Or.inl ⟨v, vm₁, B, X₁.warmed, X', hpost, fun target h => hstep₁ _ fun acts => by rw [doInvoke_state]; exact hsteps.trans h⟩
  · exact Or.inr ⟨q, vm₁, B, X₁.warmed, X', hpost, hstep₁ _ fun acts => by rw [doInvoke_state]; exact hsteps⟩
theorem vx_callSX (X : Stand p l e R s m args below meth c T locs cells slots) (hexec : p.tables.exec = Jvm.exec) {own : String} {index : Nat} {y : MethodName} {bytes : ByteArray} {maxL : Nat} {ret : Option FieldType} {hh : List (Nat × Nat × Nat × Nat)}
    (hown : s.vm.findClass own = some m.cls) (hlink : (Cond.methodLink own index y).before args s = true) (hstat : (Cond.static y).before args s = true) (hinit : (Cond.initialized y.cls).before args s = true)
    (hcode : (Cond.codeWith y bytes maxL ret hh).before args s = true) (hy : y.cls ≠ "java/lang/invoke/MethodHandle" ∧ y.cls ≠ "java/lang/invoke/VarHandle")
    {W9 : Nat} {Pre : Pt → Array Value → Prop} {Post : Pt → Array Value → Option Value → Pt → Prop} {PostX : Pt → Array Value → Addr → Pt → Prop} (hK : vx_Back l R p e below s args y 3 W9 Pre Post PostX)
    {g : JFrame} (hg : g.method = m) (hsize : g.locals.size = c.maxLocals) {argsL rest : List Value} (hlen : ∀ sig, parseMethodDescriptor y.desc = some sig → argsL.length = sig.parameters.length)
    (hstack : g.stack = argsL.reverse ++ rest) (hW : 2 * g.monitorRoom + (rest.map fun v => v.category).sum ≤ W9) (hdg : decode c.code g.pc = .ok (.invokestatic index, 3))
    (hpre : ∀ vm₁, s.WarmedH vm₁ → Pre ⟨T.setVm vm₁, locs, cells, slots⟩ argsL.toArray) :
    (∃ (v : Option Value) (vm₁ : Vm) (B : Pt), s.WarmedH vm₁ ∧ Stand p l e R s m args below meth c B.U B.locs B.cells B.slots ∧ Post ⟨T.setVm vm₁, locs, cells, slots⟩ argsL.toArray v B ∧
      ∀ target, Steps p.tables e below (B.U.setTop { g with pc := g.pc + 3, stack := v.toList ++ rest }) target → Steps p.tables e below (T.setTop g) target) ∨
    (∃ (q : Addr) (vm₁ : Vm) (B : Pt), s.WarmedH vm₁ ∧ Stand p l e R s m args below meth c B.U B.locs B.cells B.slots ∧ PostX ⟨T.setVm vm₁, locs, cells, slots⟩ argsL.toArray q B ∧
      Steps p.tables e below (T.setTop g) ((B.U.setTop { g with stack := rest }).pushFrame (.throwing q))) := by
  obtain ⟨mk, methM, cM, hnamed, hmethM, -, -, -, -, -, -, hsigM⟩ := Cond.codeWith_spec hcode
  have hstatic : methM.isStatic = true := Cond.static_spec hnamed hmethM hstat
  obtain ⟨kP, hkP, -⟩ := className_of_methodNamed hnamed
  have hinitP : kP.init = .initialized := Cond.initialized_spec (findClass_of_methodNamed hnamed) hkP hinit
  obtain ⟨vm₁, X₁, hstep₁⟩ := X.invokestatic hexec hown hlink hnamed hmethM hstatic hkP hinitP hy (g := g) hg (argsL := argsL) (rest := rest) (hlen _ hsigM) hstack hdg
  rcases hK m meth c ⟨T.setVm vm₁, locs, cells, slots⟩ { g with stack := rest } (.invokestatic index) mk argsL.toArray X₁ hg hsize hdg hW (X₁.named hnamed) (hpre vm₁ X₁.warmed) with ⟨v, B, X', hpost, hsteps⟩ | ⟨q, B, X', hpost, hsteps⟩
  · exact Or.inl ⟨v, vm₁, B, X₁.warmed, X', hpost, fun target h => hstep₁ _ fun acts => by rw [doInvoke_state]; exact hsteps.trans h⟩
  · exact Or.inr ⟨q, vm₁, B, X₁.warmed, X', hpost, hstep₁ _ fun acts => by rw [doInvoke_state]; exact hsteps⟩
theorem vx_callVW (X : Stand p l e R s m args below meth c T locs cells slots) (hexec : p.tables.exec = Jvm.exec) {own C : String} {index : Nat} {y : MethodName} {bytes : ByteArray} {maxL : Nat} {ret : Option FieldType} {hh : List (Nat × Nat × Nat × Nat)}
    (hown : s.vm.findClass own = some m.cls) (hlink : (Cond.methodLink own index y).before args s = true) (hinst : (Cond.instanceMethod y).before args s = true) (hsel : (Cond.selects C y y).before args s = true)
    (hcode : (Cond.codeWith y bytes maxL ret hh).before args s = true) (hy : y.cls ≠ "java/lang/invoke/MethodHandle" ∧ y.cls ≠ "java/lang/invoke/VarHandle")
    {W9 : Nat} {Pre : Pt → Array Value → Prop} {Post : Pt → Array Value → Option Value → Pt → Prop} (hK : Back l R p e below s args y 3 W9 Pre Post)
    {b : Addr} {cellB : Cell} (hcell : T.heap[b]? = some cellB) (hobj : cellB.vm.isStatics = false) (hcls : s.vm.findClass C = some cellB.cls)
    {g : JFrame} (hg : g.method = m) (hsize : g.locals.size = c.maxLocals) {argsL rest : List Value} (hlen : ∀ sig, parseMethodDescriptor y.desc = some sig → argsL.length = sig.parameters.length)
    (hstack : g.stack = argsL.reverse ++ .ref b :: rest) (hW : 2 * g.monitorRoom + (rest.map fun v => v.category).sum ≤ W9) (hdg : decode c.code g.pc = .ok (.invokevirtual index, 3))
    (hpre : ∀ vm₁, s.WarmedH vm₁ → Pre ⟨T.setVm vm₁, locs, cells, slots⟩ (Value.ref b :: argsL).toArray) :
    ∃ (v : Option Value) (vm₁ : Vm) (B : Pt), s.WarmedH vm₁ ∧ Stand p l e R s m args below meth c B.U B.locs B.cells B.slots ∧ Post ⟨T.setVm vm₁, locs, cells, slots⟩ (Value.ref b :: argsL).toArray v B ∧
      ∀ target, Steps p.tables e below (B.U.setTop { g with pc := g.pc + 3, stack := v.toList ++ rest }) target → Steps p.tables e below (T.setTop g) target := by
  obtain ⟨mk, methM, hnamed, hmethM, hstM, habM⟩ := Cond.instanceMethod_spec hinst
  obtain ⟨m8, methM', cM, hn8, hmethM', -, -, -, -, -, -, hsigM⟩ := Cond.codeWith_spec hcode
  cases Option.some.inj (hn8.symm.trans hnamed)
  cases hmethM.symm.trans hmethM'
  obtain ⟨c2, r2, m2, q1, q2, q3, q4, kP, hkP, hkPi⟩ := Cond.selects_spec hsel
  cases hcls.symm.trans q1
  cases (State.methodFound?_of_named hnamed hy).symm.trans q2
  cases hnamed.symm.trans q3
  have hselP : selectMethod e.platform s.vm cellB.cls mk = .method mk := by rw [Launch.admits_selectMethod X.admits]; exact q4
  obtain ⟨vm₁, X₁, hstep₁⟩ := X.invokevirtual hexec hown hlink hnamed hmethM hstM hkP hkPi hy (a := b) (cell := cellB) hcell
    (fun z h => by rw [h] at hobj; cases hobj) hselP hmethM habM hkP hkPi (g := g) hg (argsL := argsL) (rest := rest) (hlen _ hsigM) hstack hdg
  obtain ⟨v, B, X', hpost, hsteps⟩ := hK m meth c ⟨T.setVm vm₁, locs, cells, slots⟩ { g with stack := rest } (.invokevirtual index) mk (Value.ref b :: argsL).toArray X₁ hg hsize hdg hW (X₁.named hnamed) (hpre vm₁ X₁.warmed)
  exact ⟨v, vm₁, B, X₁.warmed, X', hpost, fun target h => hstep₁ _ fun acts => by rw [doInvoke_state]; exact hsteps.trans h⟩
abbrev vx_CVW (R : Room) (s : State) (args : Array Value) (own C : String) (index : Nat) (y : MethodName) (bytes : ByteArray) (maxL : Nat) (ret : Option FieldType) (hh : List (Nat × Nat × Nat × Nat)) (ws : List Cond) (rm : Room) (mc ms n : Nat) : Prop :=
  (rm.cells = mc ∧ rm.slots = ms ∧ rm.frames + 1 ≤ R.frames ∧ 8 + (maxL + 11) + rm.locals ≤ R.locals ∧ (∀ w ∈ ws, ∀ (a' : Array Value) (U : State), s.WarmedH U.vm → w.before a' U = true) ∧ Cond.codeWith y bytes maxL ret hh ∈ ws) ∧
  (Cond.codeWith y bytes maxL ret hh).before args s = true ∧ (Cond.initialized y.cls).before args s = true ∧ (y.cls ≠ "java/lang/invoke/MethodHandle" ∧ y.cls ≠ "java/lang/invoke/VarHandle") ∧
  (∀ sig, parseMethodDescriptor y.desc = some sig → n = sig.parameters.length) ∧ (Cond.methodLink own index y).before args s = true ∧ (Cond.instanceMethod y).before args s = true ∧ (Cond.selects C y y).before args s = true
theorem vx_cwVW {own C : String} {index maxL mc ms : Nat} {y : MethodName} {bytes : ByteArray} {ret : Option FieldType} {hh : List (Nat × Nat × Nat × Nat)} {Ts ws ws' : List Cond} {rm : Room} (n : Nat) (ht : ∀ w ∈ Ts, w.before args s = true) (hT : GoodIn Ts (wsV own index C y ws)) (hw : ws = Cond.codeWith y bytes maxL ret hh :: ws') (hrc : rm.cells = mc) (hrs : rm.slots = ms)
    (hd : y.cls = C ∧ y.cls ≠ "java/lang/invoke/MethodHandle" ∧ y.cls ≠ "java/lang/invoke/VarHandle" ∧ (parseMethodDescriptor y.desc).map (fun d => d.parameters.length) = some n) (hR : rm.frames + 1 ≤ R.frames ∧ 8 + (maxL + 11) + rm.locals ≤ R.locals) :
    vx_CVW R s args own C index y bytes maxL ret hh ws rm mc ms n := by
  obtain ⟨hC, hd⟩ := hd
  subst hC
  have ok : ∀ w ∈ wsV own index y.cls y ws, w.before args s = true := fun w h => ht w (hT w h).1
  have hG : GoodIn Ts ws := fun w h => hT w (by unfold wsV; exact List.mem_append_right _ h)
  have hc : Cond.codeWith y bytes maxL ret hh ∈ ws := by rw [hw]; exact List.mem_cons_self
  refine ⟨⟨hrc, hrs, hR.1, hR.2, pay_in ht hG, hc⟩, ht _ (hG _ hc).1, ok _ (by simp [wsV]), ⟨hd.1, hd.2.1⟩, fun sig h => ?_, ok _ (by simp [wsV]), ok _ (by simp [wsV]), ok _ (by simp [wsV])⟩
  have h2 := hd.2.2
  rw [h] at h2
  exact (Option.some.inj h2).symm
theorem vx_runVW {y : MethodName} {bytes cc : ByteArray} {maxL nL mc ms n index : Nat} {ret : Option FieldType} {hh : List (Nat × Nat × Nat × Nat)} {ws : List Cond} {rm : Room} {Pc : Array Value → State → Prop} {Qc : Array Value → State → Outcome → State → Prop} {free : Addr → Prop} {Ts : List Cond} {own C : String} {b : Addr} {As rest : List Value} {g : JFrame}
    (S : CallFix p m c cc nL s args Ts own) (hM : Met l y ws rm Pc Qc mc ms free) (cw : vx_CVW R s args own C index y bytes maxL ret hh ws rm mc ms n) (hp : PreV s H C b Pc As)
    (hg : g.method = m) (hn : As.length = n) (hsize : g.locals.size = nL) (hstack : g.stack = As.reverse ++ .ref b :: rest) (hW : 2 * g.monitorRoom + (rest.map fun v => v.category).sum ≤ 8) (hdg : decode cc g.pc = .ok (.invokevirtual index, 3)) (hf : cells + mc ≤ R.cells ∧ slots + ms ≤ R.slots) :
    va_Run p l e R s m args below meth c H locs cells slots mc ms g rest (Qc (Value.ref b :: As).toArray) free := by
  obtain ⟨⟨hrc, hrs, hfr, hlo, hws, hcw⟩, hcode, hini, hy, hlen, hl, hin, hse⟩ := cw
  have hK : Back l R p e below s args y 3 8 (PreOf R mc ms Pc) (PostOf Qc mc ms free) := va_backW (hh := hh) (bytes := bytes) (maxL := maxL) (ret := ret) hM hp.1 hrc hrs hfr hlo hws hcw (fun a' U hW => word_at hW (Or.inl (by first | rfl | simp [Cond.onTables, Cond.keeps, Cond.steady])) hini)
  obtain ⟨hx, hb, hml, ho, -⟩ := S
  obtain ⟨-, ⟨cellB, hcB, hoB, hclB⟩, hPc⟩ := hp
  intro T hT X
  obtain ⟨v, vm₁, ⟨U', l2, c2, s2⟩, hW₁, X', ⟨g', mk, t, L, e1, e2, hq, h1, hL, h2, h3⟩, st⟩ := vx_callVW X hx (C := C) (hh := hh) (bytes := bytes) (maxL := maxL) (ret := ret) ho hl hin hse hcode hy hK (by rw [hT]; exact hcB) hoB hclB hg (hsize.trans hml.symm) (argsL := As) (rest := rest) (fun sig h => hn.trans (hlen sig h)) hstack hW (by rw [hb]; exact hdg)
    (fun vm₁ hW₁ => ⟨hf.1, hf.2, hPc (T.setVm vm₁) hT hW₁⟩)
  dsimp only [Pt.U, Pt.locs, Pt.cells, Pt.slots] at X' e1 e2 h1 h2 h3 st
  subst h1; subst h2; subst h3
  exact ⟨v, (T.setVm vm₁).calling g' mk (Value.ref b :: As).toArray, t, U', L, hT, X', hL, e1, e2, hq, st⟩
section
variable {y : MethodName} {bytes cc : ByteArray} {maxL nL mc ms n index : Nat} {ret : Option FieldType} {ws : List Cond} {rm : Room} {Pc : Array Value → State → Prop} {Qc : Array Value → State → Outcome → State → Prop} {XC : String → State → State → Prop} {free : Addr → Prop} {Ts : List Cond} {own C : String} {b : Addr} {As rest : List Value} {g : JFrame}
theorem vx_runVX {hh : List (Nat × Nat × Nat × Nat)} (S : CallFix p m c cc nL s args Ts own) (hM : vx_Met l y ws rm Pc Qc XC mc ms free) (cw : vx_CVW R s args own C index y bytes maxL ret hh ws rm mc ms n) (hp : PreV s H C b Pc As)
    (hg : g.method = m) (hn : As.length = n) (hsize : g.locals.size = nL) (hstack : g.stack = As.reverse ++ .ref b :: rest) (hW : 2 * g.monitorRoom + (rest.map fun v => v.category).sum ≤ 8) (hdg : decode cc g.pc = .ok (.invokevirtual index, 3)) (hf : cells + mc ≤ R.cells ∧ slots + ms ≤ R.slots) :
    vx_Run p l e R s m args below meth c H locs cells slots mc ms g rest (Qc (Value.ref b :: As).toArray) XC free := by
  obtain ⟨⟨hrc, hrs, hfr, hlo, hws, hcw⟩, hcode, hini, hy, hlen, hl, hin, hse⟩ := cw
  have hK : vx_Back l R p e below s args y 3 8 (PreOf R mc ms Pc) (PostOf Qc mc ms free) (vx_Post XC mc ms free) := vx_backW (hh := hh) (bytes := bytes) (maxL := maxL) (ret := ret) hM hp.1 hrc hrs hfr hlo hws hcw (fun a' U hW => word_at hW (Or.inl (by first | rfl | simp [Cond.onTables, Cond.keeps, Cond.steady])) hini)
  obtain ⟨hx, hb, hml, ho, -⟩ := S
  obtain ⟨-, ⟨cellB, hcB, hoB, hclB⟩, hPc⟩ := hp
  intro T hT X
  rcases vx_callVX X hx (C := C) (hh := hh) (bytes := bytes) (maxL := maxL) (ret := ret) ho hl hin hse hcode hy hK (by rw [hT]; exact hcB) hoB hclB hg (hsize.trans hml.symm) (argsL := As) (rest := rest) (fun sig h => hn.trans (hlen sig h)) hstack hW (by rw [hb]; exact hdg)
    (fun vm₁ hW₁ => ⟨hf.1, hf.2, hPc (T.setVm vm₁) hT hW₁⟩) with ⟨v, vm₁, ⟨U', l2, c2, s2⟩, hW₁, X', ⟨g', mk, t, L, e1, e2, hq, h1, hL, h2, h3⟩, st⟩ | ⟨q, vm₁, ⟨U', l2, c2, s2⟩, hW₁, X', ⟨g', mk, t, L, E, ce, e1, e2, hq, hce, hcv, hcl, h1, hL, h2, h3⟩, st⟩
  · dsimp only [Pt.U, Pt.locs, Pt.cells, Pt.slots] at X' e1 e2 h1 h2 h3 st
    subst h1; subst h2; subst h3
    exact Or.inl ⟨v, (T.setVm vm₁).calling g' mk (Value.ref b :: As).toArray, t, U', L, hT, X', hL, e1, e2, hq, st⟩
  · dsimp only [Pt.U, Pt.locs, Pt.cells, Pt.slots] at X' e1 e2 h1 h2 h3 st hcl
    subst h1; subst h2; subst h3
    exact Or.inr ⟨q, (T.setVm vm₁).calling g' mk (Value.ref b :: As).toArray, t, U', L, E, ce, hT, X', hL, e1, e2, hq, hce, hcv, vx_cls hW₁ hcl, st⟩
theorem vx_runSX {hh : List (Nat × Nat × Nat × Nat)} (S : CallFix p m c cc nL s args Ts own) (hM : vx_Met l y ws rm Pc Qc XC mc ms free) (cw : vx_CSW R s args own index y bytes maxL ret hh ws rm mc ms n) (hp : PreS s H Pc As)
    (hg : g.method = m) (hn : As.length = n) (hsize : g.locals.size = nL) (hstack : g.stack = As.reverse ++ rest) (hW : 2 * g.monitorRoom + (rest.map fun v => v.category).sum ≤ 8) (hdg : decode cc g.pc = .ok (.invokestatic index, 3)) (hf : cells + mc ≤ R.cells ∧ slots + ms ≤ R.slots) :
    vx_Run p l e R s m args below meth c H locs cells slots mc ms g rest (Qc As.toArray) XC free := by
  obtain ⟨⟨hrc, hrs, hfr, hlo, hws, hcw⟩, hcode, hini, hy, hlen, hl, hstt⟩ := cw
  have hK : vx_Back l R p e below s args y 3 8 (PreOf R mc ms Pc) (PostOf Qc mc ms free) (vx_Post XC mc ms free) := vx_backW (hh := hh) (bytes := bytes) (maxL := maxL) (ret := ret) hM hp.1 hrc hrs hfr hlo hws hcw (fun a' U hW => word_at hW (Or.inl (by first | rfl | simp [Cond.onTables, Cond.keeps, Cond.steady])) hini)
  obtain ⟨hx, hb, hml, ho, -⟩ := S
  intro T hT X
  rcases vx_callSX X hx (hh := hh) (bytes := bytes) (maxL := maxL) (ret := ret) ho hl hstt hini hcode hy hK hg (hsize.trans hml.symm) (argsL := As) (rest := rest) (fun sig h => hn.trans (hlen sig h)) hstack hW (by rw [hb]; exact hdg)
    (fun vm₁ hW₁ => ⟨hf.1, hf.2, hp.2 (T.setVm vm₁) hT hW₁⟩) with ⟨v, vm₁, ⟨U', l2, c2, s2⟩, hW₁, X', ⟨g', mk, t, L, e1, e2, hq, h1, hL, h2, h3⟩, st⟩ | ⟨q, vm₁, ⟨U', l2, c2, s2⟩, hW₁, X', ⟨g', mk, t, L, E, ce, e1, e2, hq, hce, hcv, hcl, h1, hL, h2, h3⟩, st⟩
  · dsimp only [Pt.U, Pt.locs, Pt.cells, Pt.slots] at X' e1 e2 h1 h2 h3 st
    subst h1; subst h2; subst h3
    exact Or.inl ⟨v, (T.setVm vm₁).calling g' mk As.toArray, t, U', L, hT, X', hL, e1, e2, hq, st⟩
  · dsimp only [Pt.U, Pt.locs, Pt.cells, Pt.slots] at X' e1 e2 h1 h2 h3 st hcl
    subst h1; subst h2; subst h3
    exact Or.inr ⟨q, (T.setVm vm₁).calling g' mk As.toArray, t, U', L, E, ce, hT, X', hL, e1, e2, hq, hce, hcv, vx_cls hW₁ hcl, st⟩
end
end VXH
theorem vx_ofWH {l : Launch} {y : MethodName} {ws ws' : List Cond} {rm : Room} {Pc : Array Value → State → Prop} {Qc : Array Value → State → Outcome → State → Prop} {XC : String → State → State → Prop} {mc ms : Nat} {free : Addr → Prop} {cc : ByteArray} {maxL : Nat} {ret : Option FieldType} {hh : List (Nat × Nat × Nat × Nat)}
    (hy : plainName y.cls = true) (hw : ws = Cond.codeWith y cc maxL ret hh :: ws')
    (body : ∀ p e s m args below meth c s₁, BodyLoose p l y (headSpec ws rm) cc maxL ret e s m args below meth c s₁ → c.maxLocals = maxL → Pc args s →
      W p l e (headSpec ws rm).room s m args below meth c s.heap [] 0 0 (vx_MQ below Qc XC args s mc ms free) (entryFrame m args maxL)) : vx_Met l y ws rm Pc Qc XC mc ms free := by
  refine MetFree.of_bodyS (code := cc) (maxLocals := maxL) (ret := ret) hy ?_ ?_
  · intro args s m h hn
    obtain ⟨m9, meth, c, hn9, h1, h2, h3, h4, -, h5, h6, -⟩ := Cond.codeWith_spec (atoms_spec (ws := ws) h _ (by rw [hw]; exact List.mem_cons_self))
    cases hn.symm.trans hn9
    exact ⟨meth, c, h1, h2, h3, h4, h5, h6⟩
  · intro p e s m args below meth c s₁ B hml hP _
    have hh0 : s₁.heap = s.heap := by rw [B.state]; rfl
    obtain ⟨t, a1, o, b1, b2, b3⟩ := body p e s m args below meth c s₁ B hml hP s₁ hh0 (Stand.of_body B)
    exact ⟨t, o, a1, b1, b2, b3⟩
/-! ===== END ===== -/
end
section
def RX0 : String := "SignRail"
def TX0 : u_T := fun k => match k with
  | 0 => ("SignRail", "shapes", "[I", true)
  | 1 => ("SignRail", "spaces", "[I", true)
  | 2 => ("SignRail", "leads", "[I", true)
  | 3 => ("SignRail", "names", "[I", true)
  | 4 => ("SignRail", "signTexts", "[I", true)
  | 5 => ("SignRail", "signDistances", "[I", true)
  | 6 => ("SignRail", "signShapes", "[I", true)
  | 7 => ("SignRail", "costSoFar", "J", false)
  | 8 => ("SignRail", "keptGoal", "I", false)
  | _ => ("SignRail", "keptSteps", "[I", true)
def tyX0 : Nat → FieldType := fun k => match k with
  | 0 => .array .int
  | 1 => .array .int
  | 2 => .array .int
  | 3 => .array .int
  | 4 => .array .int
  | 5 => .array .int
  | 6 => .array .int
  | 7 => .long
  | 8 => .int
  | _ => .array .int
abbrev wsX00 : List Cond := u_ws RX0 TX0 10
theorem nmX0 : ∀ a, a < 10 → ∀ b, b < 10 → a ≠ b → (TX0 a).2.1 ≠ (TX0 b).2.1 := by decide +kernel
theorem tyX0_ok : ∀ k, k < 10 → parseFieldDescriptor (TX0 k).2.2.1 = some (tyX0 k) := by decide +kernel
abbrev cX0_init : ByteArray := prog_1_method_1_code
def yX0_init : MethodName := ⟨RX0, "<init>", "()V"⟩
abbrev cX0_stroke : ByteArray := prog_1_method_2_code
def yX0_stroke : MethodName := ⟨RX0, "stroke", "(IIIIIZ)I"⟩
abbrev cX0_difference : ByteArray := prog_1_method_3_code
def yX0_difference : MethodName := ⟨RX0, "difference", "(II)I"⟩
abbrev cX0_width : ByteArray := prog_1_method_4_code
def yX0_width : MethodName := ⟨RX0, "width", "(I)I"⟩
abbrev cX0_space : ByteArray := prog_1_method_5_code
def yX0_space : MethodName := ⟨RX0, "space", "(III)I"⟩
abbrev cX0_lead : ByteArray := prog_1_method_6_code
def yX0_lead : MethodName := ⟨RX0, "lead", "(III)I"⟩
abbrev cX0_name : ByteArray := prog_1_method_7_code
def yX0_name : MethodName := ⟨RX0, "name", "(III)V"⟩
abbrev cX0_textWidth : ByteArray := prog_1_method_8_code
def yX0_textWidth : MethodName := ⟨RX0, "textWidth", "(II)I"⟩
abbrev cX0_cut : ByteArray := prog_1_method_9_code
def yX0_cut : MethodName := ⟨RX0, "cut", "(IIIII)I"⟩
abbrev cX0_remove : ByteArray := prog_1_method_10_code
def yX0_remove : MethodName := ⟨RX0, "remove", "(II)Z"⟩
abbrev cX0_isOld : ByteArray := prog_1_method_11_code
def yX0_isOld : MethodName := ⟨RX0, "isOld", "(II)Z"⟩
abbrev cX0_remake : ByteArray := prog_1_method_12_code
def yX0_remake : MethodName := ⟨RX0, "remake", "()I"⟩
abbrev cX0_read : ByteArray := prog_1_method_13_code
def yX0_read : MethodName := ⟨RX0, "read", "(II)I"⟩
abbrev cX0_cost : ByteArray := prog_1_method_14_code
def yX0_cost : MethodName := ⟨RX0, "cost", "()J"⟩
abbrev cX0_walk : ByteArray := prog_1_method_15_code
def yX0_walk : MethodName := ⟨RX0, "walk", "(III)I"⟩
abbrev cX0_walkBySteps : ByteArray := prog_1_method_16_code
def yX0_walkBySteps : MethodName := ⟨RX0, "walkBySteps", "(III)I"⟩
abbrev cX0_placeBehind : ByteArray := prog_1_method_17_code
def yX0_placeBehind : MethodName := ⟨RX0, "placeBehind", "(IIII)I"⟩
abbrev cX0_requireGlyph : ByteArray := prog_1_method_18_code
def yX0_requireGlyph : MethodName := ⟨RX0, "requireGlyph", "(I)V"⟩
abbrev cX0_requirePlace : ByteArray := prog_1_method_19_code
def yX0_requirePlace : MethodName := ⟨RX0, "requirePlace", "(I)V"⟩
abbrev cX0_requireExit : ByteArray := prog_1_method_20_code
def yX0_requireExit : MethodName := ⟨RX0, "requireExit", "(II)V"⟩
abbrev cX0_requireText : ByteArray := prog_1_method_21_code
def yX0_requireText : MethodName := ⟨RX0, "requireText", "(II)V"⟩
abbrev cX0_requireLine : ByteArray := prog_1_method_22_code
def yX0_requireLine : MethodName := ⟨RX0, "requireLine", "(IIII)V"⟩
abbrev cX0_isCell : ByteArray := prog_1_method_23_code
def yX0_isCell : MethodName := ⟨RX0, "isCell", "(II)Z"⟩
abbrev cX0_lineCells : ByteArray := prog_1_method_24_code
def yX0_lineCells : MethodName := ⟨RX0, "lineCells", "(IIII)I"⟩
abbrev cX0_direction : ByteArray := prog_1_method_25_code
def yX0_direction : MethodName := ⟨RX0, "direction", "(II)I"⟩
abbrev cX0_differing : ByteArray := prog_1_method_26_code
def yX0_differing : MethodName := ⟨RX0, "differing", "(II)I"⟩
abbrev cX0_shapeWidth : ByteArray := prog_1_method_27_code
def yX0_shapeWidth : MethodName := ⟨RX0, "shapeWidth", "(I)I"⟩
abbrev cX0_hasColumn : ByteArray := prog_1_method_28_code
def yX0_hasColumn : MethodName := ⟨RX0, "hasColumn", "(II)Z"⟩
abbrev cX0_pairOf : ByteArray := prog_1_method_29_code
def yX0_pairOf : MethodName := ⟨RX0, "pairOf", "(II)I"⟩
abbrev cX0_pack : ByteArray := prog_1_method_30_code
def yX0_pack : MethodName := ⟨RX0, "pack", "(II)I"⟩
abbrev cX0_manyOf : ByteArray := prog_1_method_31_code
def yX0_manyOf : MethodName := ⟨RX0, "manyOf", "(I)I"⟩
abbrev cX0_numberOf : ByteArray := prog_1_method_32_code
def yX0_numberOf : MethodName := ⟨RX0, "numberOf", "(I)I"⟩
abbrev cX0_glyphAt : ByteArray := prog_1_method_33_code
def yX0_glyphAt : MethodName := ⟨RX0, "glyphAt", "(II)I"⟩
abbrev cX0_packedWidth : ByteArray := prog_1_method_34_code
def yX0_packedWidth : MethodName := ⟨RX0, "packedWidth", "(I)I"⟩
abbrev cX0_plateFor : ByteArray := prog_1_method_35_code
def yX0_plateFor : MethodName := ⟨RX0, "plateFor", "(I)I"⟩
abbrev cX0_wayOf : ByteArray := prog_1_method_36_code
def yX0_wayOf : MethodName := ⟨RX0, "wayOf", "(II)I"⟩
abbrev cX0_engrave : ByteArray := prog_1_method_37_code
def yX0_engrave : MethodName := ⟨RX0, "engrave", "(II)V"⟩
abbrev cX0_isOutdated : ByteArray := prog_1_method_38_code
def yX0_isOutdated : MethodName := ⟨RX0, "isOutdated", "(I)Z"⟩
abbrev cX0_requirePlatesForOutdated : ByteArray := prog_1_method_39_code
def yX0_requirePlatesForOutdated : MethodName := ⟨RX0, "requirePlatesForOutdated", "()V"⟩
abbrev cX0_readText : ByteArray := prog_1_method_40_code
def yX0_readText : MethodName := ⟨RX0, "readText", "(I)I"⟩
abbrev cX0_readGlyph : ByteArray := prog_1_method_41_code
def yX0_readGlyph : MethodName := ⟨RX0, "readGlyph", "(II)I"⟩
abbrev cX0_nearestGlyph : ByteArray := prog_1_method_42_code
def yX0_nearestGlyph : MethodName := ⟨RX0, "nearestGlyph", "(II)I"⟩
abbrev cX0_forgetWalks : ByteArray := prog_1_method_43_code
def yX0_forgetWalks : MethodName := ⟨RX0, "forgetWalks", "()V"⟩
abbrev cX0_stepsToArrive : ByteArray := prog_1_method_44_code
def yX0_stepsToArrive : MethodName := ⟨RX0, "stepsToArrive", "(II)I"⟩
abbrev cX0_placeReached : ByteArray := prog_1_method_45_code
def yX0_placeReached : MethodName := ⟨RX0, "placeReached", "(III)I"⟩
abbrev cX0_nextWay : ByteArray := prog_1_method_46_code
def yX0_nextWay : MethodName := ⟨RX0, "nextWay", "(III)I"⟩
abbrev cX0_isReadAs : ByteArray := prog_1_method_47_code
def yX0_isReadAs : MethodName := ⟨RX0, "isReadAs", "(II)Z"⟩
def RX1 : String := "SignRailModel"
def TX1 : u_T := fun k => match k with
  | 0 => ("SignRailModel", "thrown", "I", false)
  | 1 => ("SignRailModel", "shapes", "[I", true)
  | 2 => ("SignRailModel", "spaces", "[I", true)
  | 3 => ("SignRailModel", "leads", "[I", true)
  | 4 => ("SignRailModel", "names", "[I", true)
  | 5 => ("SignRailModel", "nameMany", "[I", true)
  | 6 => ("SignRailModel", "texts", "[I", true)
  | 7 => ("SignRailModel", "many", "[I", true)
  | 8 => ("SignRailModel", "distances", "[I", true)
  | 9 => ("SignRailModel", "cuts", "[I", true)
  | 10 => ("SignRailModel", "cost", "J", false)
  | 11 => ("SignRailModel", "steps", "I", false)
  | 12 => ("SignRailModel", "at", "I", false)
  | 13 => ("SignRailModel", "hasArrived", "Z", false)
  | _ => ("SignRailModel", "isTaken", "[Z", true)
def tyX1 : Nat → FieldType := fun k => match k with
  | 0 => .int
  | 1 => .array .int
  | 2 => .array .int
  | 3 => .array .int
  | 4 => .array .int
  | 5 => .array .int
  | 6 => .array .int
  | 7 => .array .int
  | 8 => .array .int
  | 9 => .array .int
  | 10 => .long
  | 11 => .int
  | 12 => .int
  | 13 => .boolean
  | _ => .array .boolean
abbrev wsX10 : List Cond := u_ws RX1 TX1 15
theorem nmX1 : ∀ a, a < 15 → ∀ b, b < 15 → a ≠ b → (TX1 a).2.1 ≠ (TX1 b).2.1 := by decide +kernel
theorem tyX1_ok : ∀ k, k < 15 → parseFieldDescriptor (TX1 k).2.2.1 = some (tyX1 k) := by decide +kernel
abbrev cX1_init : ByteArray := prog_3_method_1_code
def yX1_init : MethodName := ⟨RX1, "<init>", "()V"⟩
abbrev cX1_thrown : ByteArray := prog_3_method_2_code
def yX1_thrown : MethodName := ⟨RX1, "thrown", "()I"⟩
abbrev cX1_fails : ByteArray := prog_3_method_3_code
def yX1_fails : MethodName := ⟨RX1, "fails", "(I)I"⟩
abbrev cX1_in : ByteArray := prog_3_method_4_code
def yX1_in : MethodName := ⟨RX1, "in", "(III)Z"⟩
abbrev cX1_isGlyph : ByteArray := prog_3_method_5_code
def yX1_isGlyph : MethodName := ⟨RX1, "isGlyph", "(I)Z"⟩
abbrev cX1_isPlace : ByteArray := prog_3_method_6_code
def yX1_isPlace : MethodName := ⟨RX1, "isPlace", "(I)Z"⟩
abbrev cX1_isExit : ByteArray := prog_3_method_7_code
def yX1_isExit : MethodName := ⟨RX1, "isExit", "(II)Z"⟩
abbrev cX1_power : ByteArray := prog_3_method_8_code
def yX1_power : MethodName := ⟨RX1, "power", "(I)I"⟩
abbrev cX1_isText : ByteArray := prog_3_method_9_code
def yX1_isText : MethodName := ⟨RX1, "isText", "(II)Z"⟩
abbrev cX1_glyph : ByteArray := prog_3_method_10_code
def yX1_glyph : MethodName := ⟨RX1, "glyph", "(III)I"⟩
abbrev cX1_bits : ByteArray := prog_3_method_11_code
def yX1_bits : MethodName := ⟨RX1, "bits", "(I)I"⟩
abbrev cX1_stroke : ByteArray := prog_3_method_12_code
def yX1_stroke : MethodName := ⟨RX1, "stroke", "(IIIIIZ)I"⟩
abbrev cX1_difference : ByteArray := prog_3_method_13_code
def yX1_difference : MethodName := ⟨RX1, "difference", "(II)I"⟩
abbrev cX1_widthOf : ByteArray := prog_3_method_14_code
def yX1_widthOf : MethodName := ⟨RX1, "widthOf", "(I)I"⟩
abbrev cX1_width : ByteArray := prog_3_method_15_code
def yX1_width : MethodName := ⟨RX1, "width", "(I)I"⟩
abbrev cX1_space : ByteArray := prog_3_method_16_code
def yX1_space : MethodName := ⟨RX1, "space", "(III)I"⟩
abbrev cX1_lead : ByteArray := prog_3_method_17_code
def yX1_lead : MethodName := ⟨RX1, "lead", "(III)I"⟩
abbrev cX1_name : ByteArray := prog_3_method_18_code
def yX1_name : MethodName := ⟨RX1, "name", "(III)V"⟩
abbrev cX1_widthOfText : ByteArray := prog_3_method_19_code
def yX1_widthOfText : MethodName := ⟨RX1, "widthOfText", "(II)I"⟩
abbrev cX1_textWidth : ByteArray := prog_3_method_20_code
def yX1_textWidth : MethodName := ⟨RX1, "textWidth", "(II)I"⟩
abbrev cX1_plate : ByteArray := prog_3_method_21_code
def yX1_plate : MethodName := ⟨RX1, "plate", "(II)I"⟩
abbrev cX1_cuts : ByteArray := prog_3_method_22_code
def yX1_cuts : MethodName := ⟨RX1, "cuts", "(I)V"⟩
abbrev cX1_cut : ByteArray := prog_3_method_23_code
def yX1_cut : MethodName := ⟨RX1, "cut", "(IIIII)I"⟩
abbrev cX1_remove : ByteArray := prog_3_method_24_code
def yX1_remove : MethodName := ⟨RX1, "remove", "(II)Z"⟩
abbrev cX1_old : ByteArray := prog_3_method_25_code
def yX1_old : MethodName := ⟨RX1, "old", "(I)Z"⟩
abbrev cX1_isOld : ByteArray := prog_3_method_26_code
def yX1_isOld : MethodName := ⟨RX1, "isOld", "(II)Z"⟩
abbrev cX1_remake : ByteArray := prog_3_method_27_code
def yX1_remake : MethodName := ⟨RX1, "remake", "()I"⟩
abbrev cX1_nearest : ByteArray := prog_3_method_28_code
def yX1_nearest : MethodName := ⟨RX1, "nearest", "(II)I"⟩
abbrev cX1_reads : ByteArray := prog_3_method_29_code
def yX1_reads : MethodName := ⟨RX1, "reads", "(I)I"⟩
abbrev cX1_read : ByteArray := prog_3_method_30_code
def yX1_read : MethodName := ⟨RX1, "read", "(II)I"⟩
abbrev cX1_cost : ByteArray := prog_3_method_31_code
def yX1_cost : MethodName := ⟨RX1, "cost", "()J"⟩
abbrev cX1_takes : ByteArray := prog_3_method_32_code
def yX1_takes : MethodName := ⟨RX1, "takes", "(III)I"⟩
abbrev cX1_follows : ByteArray := prog_3_method_33_code
def yX1_follows : MethodName := ⟨RX1, "follows", "(IIII)V"⟩
abbrev cX1_walk : ByteArray := prog_3_method_34_code
def yX1_walk : MethodName := ⟨RX1, "walk", "(III)I"⟩
abbrev cX1_walkBySteps : ByteArray := prog_3_method_35_code
def yX1_walkBySteps : MethodName := ⟨RX1, "walkBySteps", "(III)I"⟩
abbrev cX1_placeBehind : ByteArray := prog_3_method_36_code
def yX1_placeBehind : MethodName := ⟨RX1, "placeBehind", "(IIII)I"⟩
def RJx145de : String := "java/io/Serializable"
def TJx145de : u_T := fun k => match k with
  | _ => ("", "", "", false)
def tyJx145de : Nat → FieldType := fun k => match k with
  | _ => .int
abbrev wsJx145de0 : List Cond := u_ws RJx145de TJx145de 0
theorem nmJx145de : ∀ a, a < 0 → ∀ b, b < 0 → a ≠ b → (TJx145de a).2.1 ≠ (TJx145de b).2.1 := by decide +kernel
theorem tyJx145de_ok : ∀ k, k < 0 → parseFieldDescriptor (TJx145de k).2.2.1 = some (tyJx145de k) := by decide +kernel
def RJ6 : String := "java/lang/Integer"
def TJ6 : u_T := fun k => match k with
  | _ => ("", "", "", false)
def tyJ6 : Nat → FieldType := fun k => match k with
  | _ => .int
abbrev wsJ60 : List Cond := u_ws RJ6 TJ6 0
theorem nmJ6 : ∀ a, a < 0 → ∀ b, b < 0 → a ≠ b → (TJ6 a).2.1 ≠ (TJ6 b).2.1 := by decide +kernel
theorem tyJ6_ok : ∀ k, k < 0 → parseFieldDescriptor (TJ6 k).2.2.1 = some (tyJ6 k) := by decide +kernel
abbrev cJ6_bitCount_0f7a4 : ByteArray := prog_8_method_49_code
def yJ6_bitCount_0f7a4 : MethodName := ⟨RJ6, "bitCount", "(I)I"⟩
def RJ9 : String := "java/lang/Math"
def TJ9 : u_T := fun k => match k with
  | _ => ("", "", "", false)
def tyJ9 : Nat → FieldType := fun k => match k with
  | _ => .int
abbrev wsJ90 : List Cond := u_ws RJ9 TJ9 0
theorem nmJ9 : ∀ a, a < 0 → ∀ b, b < 0 → a ≠ b → (TJ9 a).2.1 ≠ (TJ9 b).2.1 := by decide +kernel
theorem tyJ9_ok : ∀ k, k < 0 → parseFieldDescriptor (TJ9 k).2.2.1 = some (tyJ9 k) := by decide +kernel
abbrev cJ9_abs_0f7a4 : ByteArray := prog_9_method_59_code
def yJ9_abs_0f7a4 : MethodName := ⟨RJ9, "abs", "(I)I"⟩
abbrev cJ9_max_7cf53 : ByteArray := prog_9_method_65_code
def yJ9_max_7cf53 : MethodName := ⟨RJ9, "max", "(II)I"⟩
def RJ0 : String := "java/lang/String"
def TJ0 : u_T := fun k => match k with
  | _ => ("", "", "", false)
def tyJ0 : Nat → FieldType := fun k => match k with
  | _ => .int
abbrev wsJ00 : List Cond := u_ws RJ0 TJ0 0
theorem nmJ0 : ∀ a, a < 0 → ∀ b, b < 0 → a ≠ b → (TJ0 a).2.1 ≠ (TJ0 b).2.1 := by decide +kernel
theorem tyJ0_ok : ∀ k, k < 0 → parseFieldDescriptor (TJ0 k).2.2.1 = some (tyJ0 k) := by decide +kernel
def RJ7 : String := "java/util/Arrays"
def TJ7 : u_T := fun k => match k with
  | _ => ("", "", "", false)
def tyJ7 : Nat → FieldType := fun k => match k with
  | _ => .int
abbrev wsJ70 : List Cond := u_ws RJ7 TJ7 0
theorem nmJ7 : ∀ a, a < 0 → ∀ b, b < 0 → a ≠ b → (TJ7 a).2.1 ≠ (TJ7 b).2.1 := by decide +kernel
theorem tyJ7_ok : ∀ k, k < 0 → parseFieldDescriptor (TJ7 k).2.2.1 = some (tyJ7 k) := by decide +kernel
abbrev cJ7_fill_53178 : ByteArray := prog_13_method_103_code
def yJ7_fill_53178 : MethodName := ⟨RJ7, "fill", "([II)V"⟩
def RL : String := "SignRailLaw"
abbrev cL_stroke : ByteArray := method_3_code
def yL_stroke : MethodName := ⟨RL, "stroke", "(LSignRail;IIIIIZ[J)I"⟩
abbrev cL_difference : ByteArray := method_4_code
def yL_difference : MethodName := ⟨RL, "difference", "(LSignRail;II[J)I"⟩
abbrev cL_width : ByteArray := method_5_code
def yL_width : MethodName := ⟨RL, "width", "(LSignRail;I[J)I"⟩
abbrev cL_space : ByteArray := method_6_code
def yL_space : MethodName := ⟨RL, "space", "(LSignRail;III[J)I"⟩
abbrev cL_lead : ByteArray := method_7_code
def yL_lead : MethodName := ⟨RL, "lead", "(LSignRail;III[J)I"⟩
abbrev cL_name : ByteArray := method_8_code
def yL_name : MethodName := ⟨RL, "name", "(LSignRail;III)I"⟩
abbrev cL_textWidth : ByteArray := method_9_code
def yL_textWidth : MethodName := ⟨RL, "textWidth", "(LSignRail;II[J)I"⟩
abbrev cL_cut : ByteArray := method_10_code
def yL_cut : MethodName := ⟨RL, "cut", "(LSignRail;IIIII[J)I"⟩
abbrev cL_remove : ByteArray := method_11_code
def yL_remove : MethodName := ⟨RL, "remove", "(LSignRail;II[J)I"⟩
abbrev cL_isOld : ByteArray := method_12_code
def yL_isOld : MethodName := ⟨RL, "isOld", "(LSignRail;II[J)I"⟩
abbrev cL_remake : ByteArray := method_13_code
def yL_remake : MethodName := ⟨RL, "remake", "(LSignRail;[J)I"⟩
abbrev cL_read : ByteArray := method_14_code
def yL_read : MethodName := ⟨RL, "read", "(LSignRail;II[J)I"⟩
abbrev cL_walk : ByteArray := method_15_code
def yL_walk : MethodName := ⟨RL, "walk", "(LSignRail;III[J)I"⟩
abbrev cL_walkBySteps : ByteArray := method_16_code
def yL_walkBySteps : MethodName := ⟨RL, "walkBySteps", "(LSignRail;III[J)I"⟩
abbrev cL_placeBehind : ByteArray := method_17_code
def yL_placeBehind : MethodName := ⟨RL, "placeBehind", "(LSignRail;IIII[J)I"⟩
abbrev cL_law : ByteArray := code
def yL_law : MethodName := ⟨RL, "law", "([I)Z"⟩
def wsJ7_fill_53178 : List Cond := .code yJ7_fill_53178 cJ7_fill_53178 4 none :: ([])
def wsX0_init : List Cond := .code yX0_init cX0_init 1 none :: ([.methodLink RX0 3 objectInit, .instanceMethod objectInit, .code objectInit ⟨#[0xb1]⟩ 1 none, .arrayClass .int, .fieldLink RX0 9 "SignRail" "shapes" "[I", .fieldLink RX0 13 "SignRail" "spaces" "[I", .fieldLink RX0 16 "SignRail" "leads" "[I", .fieldLink RX0 19 "SignRail" "names" "[I", .fieldLink RX0 22 "SignRail" "signTexts" "[I", .fieldLink RX0 25 "SignRail" "signDistances" "[I", .fieldLink RX0 28 "SignRail" "signShapes" "[I", .fieldLink RX0 31 "SignRail" "costSoFar" "J", .fieldLink RX0 35 "SignRail" "keptGoal" "I", .fieldLink RX0 39 "SignRail" "keptSteps" "[I", .methodLink RX0 42 yJ7_fill_53178, .static yJ7_fill_53178, .initialized RJ7, .code yJ7_fill_53178 cJ7_fill_53178 4 none] ++ wsX00)
def wsX0_requireGlyph : List Cond := .code yX0_requireGlyph cX0_requireGlyph 1 none :: ([.classLink RX0 135 "java/lang/IndexOutOfBoundsException", .initialized "java/lang/IndexOutOfBoundsException"] ++ (vx_atS RX0 139 "java/lang/IndexOutOfBoundsException" ["java/lang/RuntimeException", "java/lang/Exception"]).filter goodWord)
def wsX0_isCell : List Cond := .code yX0_isCell cX0_isCell 2 (some .boolean) :: ([])
def wsX0_requireLine : List Cond := .code yX0_requireLine cX0_requireLine 6 none :: ([.classLink RX0 71 "java/lang/IllegalArgumentException", .initialized "java/lang/IllegalArgumentException", .methodLink RX0 154 Lib.Math.abs.name, .static Lib.Math.abs.name, .initialized "java/lang/Math", .code Lib.Math.abs.name Lib.Math.abs.code 1 (some .int), .methodLink RX0 148 yX0_isCell, .static yX0_isCell, .initialized RX0, .code yX0_isCell cX0_isCell 2 (some .boolean)] ++ (vx_atS RX0 75 "java/lang/IllegalArgumentException" ["java/lang/RuntimeException", "java/lang/Exception"]).filter goodWord)
def wsX0_direction : List Cond := .code yX0_direction cX0_direction 2 (some .int) :: ([])
def wsX0_lineCells : List Cond := .code yX0_lineCells cX0_lineCells 9 (some .int) :: ([.methodLink RX0 154 Lib.Math.abs.name, .static Lib.Math.abs.name, .initialized "java/lang/Math", .code Lib.Math.abs.name Lib.Math.abs.code 1 (some .int), .methodLink RX0 161 Lib.Math.max.name, .static Lib.Math.max.name, .code Lib.Math.max.name Lib.Math.max.code 2 (some .int), .methodLink RX0 164 yX0_direction, .static yX0_direction, .initialized RX0, .code yX0_direction cX0_direction 2 (some .int)])
def wsX0_forgetWalks : List Cond := .code yX0_forgetWalks cX0_forgetWalks 1 none :: ([.fieldLink RX0 35 "SignRail" "keptGoal" "I"] ++ wsX00)
def wsJ6_bitCount_0f7a4 : List Cond := .code yJ6_bitCount_0f7a4 cJ6_bitCount_0f7a4 1 (some .int) :: ([.constant RJ6 265 (1431655765), .constant RJ6 266 (858993459), .constant RJ6 267 (252645135)])
def wsX0_differing : List Cond := .code yX0_differing cX0_differing 2 (some .int) :: ([.methodLink RX0 167 yJ6_bitCount_0f7a4, .static yJ6_bitCount_0f7a4, .initialized RJ6, .code yJ6_bitCount_0f7a4 cJ6_bitCount_0f7a4 1 (some .int), .constant RJ6 265 (1431655765), .constant RJ6 266 (858993459), .constant RJ6 267 (252645135)])
def wsX0_stroke_r1 : List Cond := [Cond.fieldLink RX0 9 "SignRail" "shapes" "[I", Cond.methodLink RX0 48 yX0_requireGlyph, Cond.static yX0_requireGlyph, Cond.initialized RX0, Cond.code yX0_requireGlyph cX0_requireGlyph 1 none, Cond.classLink RX0 135 "java/lang/IndexOutOfBoundsException", Cond.initialized "java/lang/IndexOutOfBoundsException", Cond.methodLink RX0 52 yX0_requireLine, Cond.static yX0_requireLine, Cond.code yX0_requireLine cX0_requireLine 6 none, Cond.classLink RX0 71 "java/lang/IllegalArgumentException", Cond.initialized "java/lang/IllegalArgumentException", Cond.methodLink RX0 154 Lib.Math.abs.name, Cond.static Lib.Math.abs.name, Cond.initialized "java/lang/Math", Cond.code Lib.Math.abs.name Lib.Math.abs.code 1 (some .int), Cond.methodLink RX0 148 yX0_isCell, Cond.static yX0_isCell, Cond.code yX0_isCell cX0_isCell 2 (some .boolean), Cond.methodLink RX0 56 yX0_lineCells, Cond.static yX0_lineCells, Cond.code yX0_lineCells cX0_lineCells 9 (some .int), Cond.methodLink RX0 161 Lib.Math.max.name, Cond.static Lib.Math.max.name]
def wsX0_stroke_r2 : List Cond := [Cond.code Lib.Math.max.name Lib.Math.max.code 2 (some .int), Cond.methodLink RX0 164 yX0_direction, Cond.static yX0_direction, Cond.code yX0_direction cX0_direction 2 (some .int), Cond.methodLink RX0 60 yX0_forgetWalks, Cond.instanceMethod yX0_forgetWalks, Cond.selects RX0 yX0_forgetWalks yX0_forgetWalks, Cond.code yX0_forgetWalks cX0_forgetWalks 1 none, Cond.fieldLink RX0 35 "SignRail" "keptGoal" "I", Cond.methodLink RX0 63 yX0_differing, Cond.static yX0_differing, Cond.code yX0_differing cX0_differing 2 (some .int), Cond.methodLink RX0 167 yJ6_bitCount_0f7a4, Cond.static yJ6_bitCount_0f7a4, Cond.initialized RJ6, Cond.code yJ6_bitCount_0f7a4 cJ6_bitCount_0f7a4 1 (some .int), Cond.constant RJ6 265 (1431655765), Cond.constant RJ6 266 (858993459), Cond.constant RJ6 267 (252645135)]
def wsX0_stroke : List Cond := .code yX0_stroke cX0_stroke 10 (some .int) :: ((wsX0_stroke_r1 ++ wsX0_stroke_r2) ++ wsX00 ++ (vx_atS RX0 139 "java/lang/IndexOutOfBoundsException" ["java/lang/RuntimeException", "java/lang/Exception"]).filter goodWord ++ (vx_atS RX0 75 "java/lang/IllegalArgumentException" ["java/lang/RuntimeException", "java/lang/Exception"]).filter goodWord)
def wsX0_difference : List Cond := .code yX0_difference cX0_difference 3 (some .int) :: ([.fieldLink RX0 9 "SignRail" "shapes" "[I", .methodLink RX0 48 yX0_requireGlyph, .static yX0_requireGlyph, .initialized RX0, .code yX0_requireGlyph cX0_requireGlyph 1 none, .classLink RX0 135 "java/lang/IndexOutOfBoundsException", .initialized "java/lang/IndexOutOfBoundsException", .methodLink RX0 63 yX0_differing, .static yX0_differing, .code yX0_differing cX0_differing 2 (some .int), .methodLink RX0 167 yJ6_bitCount_0f7a4, .static yJ6_bitCount_0f7a4, .initialized RJ6, .code yJ6_bitCount_0f7a4 cJ6_bitCount_0f7a4 1 (some .int), .constant RJ6 265 (1431655765), .constant RJ6 266 (858993459), .constant RJ6 267 (252645135)] ++ wsX00 ++ (vx_atS RX0 139 "java/lang/IndexOutOfBoundsException" ["java/lang/RuntimeException", "java/lang/Exception"]).filter goodWord)
def wsX0_hasColumn : List Cond := .code yX0_hasColumn cX0_hasColumn 2 (some .boolean) :: ([.methodLink RX0 56 yX0_lineCells, .static yX0_lineCells, .initialized RX0, .code yX0_lineCells cX0_lineCells 9 (some .int), .methodLink RX0 154 Lib.Math.abs.name, .static Lib.Math.abs.name, .initialized "java/lang/Math", .code Lib.Math.abs.name Lib.Math.abs.code 1 (some .int), .methodLink RX0 161 Lib.Math.max.name, .static Lib.Math.max.name, .code Lib.Math.max.name Lib.Math.max.code 2 (some .int), .methodLink RX0 164 yX0_direction, .static yX0_direction, .code yX0_direction cX0_direction 2 (some .int)])
def wsX0_shapeWidth : List Cond := .code yX0_shapeWidth cX0_shapeWidth 4 (some .int) :: ([.methodLink RX0 172 yX0_hasColumn, .static yX0_hasColumn, .initialized RX0, .code yX0_hasColumn cX0_hasColumn 2 (some .boolean), .methodLink RX0 56 yX0_lineCells, .static yX0_lineCells, .code yX0_lineCells cX0_lineCells 9 (some .int), .methodLink RX0 154 Lib.Math.abs.name, .static Lib.Math.abs.name, .initialized "java/lang/Math", .code Lib.Math.abs.name Lib.Math.abs.code 1 (some .int), .methodLink RX0 161 Lib.Math.max.name, .static Lib.Math.max.name, .code Lib.Math.max.name Lib.Math.max.code 2 (some .int), .methodLink RX0 164 yX0_direction, .static yX0_direction, .code yX0_direction cX0_direction 2 (some .int)])
def wsX0_width_r1 : List Cond := [Cond.fieldLink RX0 9 "SignRail" "shapes" "[I", Cond.methodLink RX0 48 yX0_requireGlyph, Cond.static yX0_requireGlyph, Cond.initialized RX0, Cond.code yX0_requireGlyph cX0_requireGlyph 1 none, Cond.classLink RX0 135 "java/lang/IndexOutOfBoundsException", Cond.initialized "java/lang/IndexOutOfBoundsException", Cond.methodLink RX0 67 yX0_shapeWidth, Cond.static yX0_shapeWidth, Cond.code yX0_shapeWidth cX0_shapeWidth 4 (some .int), Cond.methodLink RX0 172 yX0_hasColumn, Cond.static yX0_hasColumn, Cond.code yX0_hasColumn cX0_hasColumn 2 (some .boolean), Cond.methodLink RX0 56 yX0_lineCells, Cond.static yX0_lineCells, Cond.code yX0_lineCells cX0_lineCells 9 (some .int), Cond.methodLink RX0 154 Lib.Math.abs.name, Cond.static Lib.Math.abs.name, Cond.initialized "java/lang/Math", Cond.code Lib.Math.abs.name Lib.Math.abs.code 1 (some .int), Cond.methodLink RX0 161 Lib.Math.max.name, Cond.static Lib.Math.max.name, Cond.code Lib.Math.max.name Lib.Math.max.code 2 (some .int), Cond.methodLink RX0 164 yX0_direction]
def wsX0_width_r2 : List Cond := [Cond.static yX0_direction, Cond.code yX0_direction cX0_direction 2 (some .int)]
def wsX0_width : List Cond := .code yX0_width cX0_width 2 (some .int) :: ((wsX0_width_r1 ++ wsX0_width_r2) ++ wsX00 ++ (vx_atS RX0 139 "java/lang/IndexOutOfBoundsException" ["java/lang/RuntimeException", "java/lang/Exception"]).filter goodWord)
def wsX0_pairOf : List Cond := .code yX0_pairOf cX0_pairOf 2 (some .int) :: ([])
def wsX0_space : List Cond := .code yX0_space cX0_space 6 (some .int) :: ([.classLink RX0 71 "java/lang/IllegalArgumentException", .initialized "java/lang/IllegalArgumentException", .fieldLink RX0 13 "SignRail" "spaces" "[I", .methodLink RX0 48 yX0_requireGlyph, .static yX0_requireGlyph, .initialized RX0, .code yX0_requireGlyph cX0_requireGlyph 1 none, .classLink RX0 135 "java/lang/IndexOutOfBoundsException", .initialized "java/lang/IndexOutOfBoundsException", .methodLink RX0 78 yX0_pairOf, .static yX0_pairOf, .code yX0_pairOf cX0_pairOf 2 (some .int)] ++ wsX00 ++ (vx_atS RX0 75 "java/lang/IllegalArgumentException" ["java/lang/RuntimeException", "java/lang/Exception"]).filter goodWord ++ (vx_atS RX0 139 "java/lang/IndexOutOfBoundsException" ["java/lang/RuntimeException", "java/lang/Exception"]).filter goodWord)
def wsX0_requirePlace : List Cond := .code yX0_requirePlace cX0_requirePlace 1 none :: ([.classLink RX0 135 "java/lang/IndexOutOfBoundsException", .initialized "java/lang/IndexOutOfBoundsException"] ++ (vx_atS RX0 139 "java/lang/IndexOutOfBoundsException" ["java/lang/RuntimeException", "java/lang/Exception"]).filter goodWord)
def wsX0_requireExit : List Cond := .code yX0_requireExit cX0_requireExit 2 none :: ([.classLink RX0 135 "java/lang/IndexOutOfBoundsException", .initialized "java/lang/IndexOutOfBoundsException", .methodLink RX0 85 yX0_requirePlace, .static yX0_requirePlace, .initialized RX0, .code yX0_requirePlace cX0_requirePlace 1 none] ++ (vx_atS RX0 139 "java/lang/IndexOutOfBoundsException" ["java/lang/RuntimeException", "java/lang/Exception"]).filter goodWord)
def wsX0_wayOf : List Cond := .code yX0_wayOf cX0_wayOf 2 (some .int) :: ([])
def wsX0_lead : List Cond := .code yX0_lead cX0_lead 6 (some .int) :: ([.fieldLink RX0 16 "SignRail" "leads" "[I", .methodLink RX0 81 yX0_requireExit, .static yX0_requireExit, .initialized RX0, .code yX0_requireExit cX0_requireExit 2 none, .classLink RX0 135 "java/lang/IndexOutOfBoundsException", .initialized "java/lang/IndexOutOfBoundsException", .methodLink RX0 85 yX0_requirePlace, .static yX0_requirePlace, .code yX0_requirePlace cX0_requirePlace 1 none, .methodLink RX0 88 yX0_wayOf, .static yX0_wayOf, .code yX0_wayOf cX0_wayOf 2 (some .int), .methodLink RX0 60 yX0_forgetWalks, .instanceMethod yX0_forgetWalks, .selects RX0 yX0_forgetWalks yX0_forgetWalks, .code yX0_forgetWalks cX0_forgetWalks 1 none, .fieldLink RX0 35 "SignRail" "keptGoal" "I"] ++ wsX00 ++ (vx_atS RX0 139 "java/lang/IndexOutOfBoundsException" ["java/lang/RuntimeException", "java/lang/Exception"]).filter goodWord)
def wsX0_requireText : List Cond := .code yX0_requireText cX0_requireText 2 none :: ([.classLink RX0 71 "java/lang/IllegalArgumentException", .initialized "java/lang/IllegalArgumentException"] ++ (vx_atS RX0 75 "java/lang/IllegalArgumentException" ["java/lang/RuntimeException", "java/lang/Exception"]).filter goodWord)
def wsX0_pack : List Cond := .code yX0_pack cX0_pack 2 (some .int) :: ([])
def wsX0_name : List Cond := .code yX0_name cX0_name 4 none :: ([.fieldLink RX0 19 "SignRail" "names" "[I", .methodLink RX0 85 yX0_requirePlace, .static yX0_requirePlace, .initialized RX0, .code yX0_requirePlace cX0_requirePlace 1 none, .classLink RX0 135 "java/lang/IndexOutOfBoundsException", .initialized "java/lang/IndexOutOfBoundsException", .methodLink RX0 91 yX0_requireText, .static yX0_requireText, .code yX0_requireText cX0_requireText 2 none, .classLink RX0 71 "java/lang/IllegalArgumentException", .initialized "java/lang/IllegalArgumentException", .methodLink RX0 94 yX0_pack, .static yX0_pack, .code yX0_pack cX0_pack 2 (some .int), .methodLink RX0 60 yX0_forgetWalks, .instanceMethod yX0_forgetWalks, .selects RX0 yX0_forgetWalks yX0_forgetWalks, .code yX0_forgetWalks cX0_forgetWalks 1 none, .fieldLink RX0 35 "SignRail" "keptGoal" "I"] ++ wsX00 ++ (vx_atS RX0 139 "java/lang/IndexOutOfBoundsException" ["java/lang/RuntimeException", "java/lang/Exception"]).filter goodWord ++ (vx_atS RX0 75 "java/lang/IllegalArgumentException" ["java/lang/RuntimeException", "java/lang/Exception"]).filter goodWord)
def wsX0_manyOf : List Cond := .code yX0_manyOf cX0_manyOf 1 (some .int) :: ([])
def wsX0_glyphAt : List Cond := .code yX0_glyphAt cX0_glyphAt 2 (some .int) :: ([])
def wsX0_packedWidth_r1 : List Cond := [Cond.fieldLink RX0 9 "SignRail" "shapes" "[I", Cond.fieldLink RX0 13 "SignRail" "spaces" "[I", Cond.methodLink RX0 175 yX0_manyOf, Cond.static yX0_manyOf, Cond.initialized RX0, Cond.code yX0_manyOf cX0_manyOf 1 (some .int), Cond.methodLink RX0 178 yX0_glyphAt, Cond.static yX0_glyphAt, Cond.code yX0_glyphAt cX0_glyphAt 2 (some .int), Cond.methodLink RX0 67 yX0_shapeWidth, Cond.static yX0_shapeWidth, Cond.code yX0_shapeWidth cX0_shapeWidth 4 (some .int), Cond.methodLink RX0 172 yX0_hasColumn, Cond.static yX0_hasColumn, Cond.code yX0_hasColumn cX0_hasColumn 2 (some .boolean), Cond.methodLink RX0 56 yX0_lineCells, Cond.static yX0_lineCells, Cond.code yX0_lineCells cX0_lineCells 9 (some .int), Cond.methodLink RX0 154 Lib.Math.abs.name, Cond.static Lib.Math.abs.name, Cond.initialized "java/lang/Math", Cond.code Lib.Math.abs.name Lib.Math.abs.code 1 (some .int), Cond.methodLink RX0 161 Lib.Math.max.name, Cond.static Lib.Math.max.name]
def wsX0_packedWidth_r2 : List Cond := [Cond.code Lib.Math.max.name Lib.Math.max.code 2 (some .int), Cond.methodLink RX0 164 yX0_direction, Cond.static yX0_direction, Cond.code yX0_direction cX0_direction 2 (some .int), Cond.methodLink RX0 78 yX0_pairOf, Cond.static yX0_pairOf, Cond.code yX0_pairOf cX0_pairOf 2 (some .int)]
def wsX0_packedWidth : List Cond := .code yX0_packedWidth cX0_packedWidth 5 (some .int) :: ((wsX0_packedWidth_r1 ++ wsX0_packedWidth_r2) ++ wsX00)
def wsX0_textWidth_r1 : List Cond := [Cond.methodLink RX0 91 yX0_requireText, Cond.static yX0_requireText, Cond.initialized RX0, Cond.code yX0_requireText cX0_requireText 2 none, Cond.classLink RX0 71 "java/lang/IllegalArgumentException", Cond.initialized "java/lang/IllegalArgumentException", Cond.methodLink RX0 94 yX0_pack, Cond.static yX0_pack, Cond.code yX0_pack cX0_pack 2 (some .int), Cond.methodLink RX0 97 yX0_packedWidth, Cond.instanceMethod yX0_packedWidth, Cond.selects RX0 yX0_packedWidth yX0_packedWidth, Cond.code yX0_packedWidth cX0_packedWidth 5 (some .int), Cond.fieldLink RX0 9 "SignRail" "shapes" "[I", Cond.fieldLink RX0 13 "SignRail" "spaces" "[I", Cond.methodLink RX0 175 yX0_manyOf, Cond.static yX0_manyOf, Cond.code yX0_manyOf cX0_manyOf 1 (some .int), Cond.methodLink RX0 178 yX0_glyphAt, Cond.static yX0_glyphAt, Cond.code yX0_glyphAt cX0_glyphAt 2 (some .int), Cond.methodLink RX0 67 yX0_shapeWidth, Cond.static yX0_shapeWidth, Cond.code yX0_shapeWidth cX0_shapeWidth 4 (some .int)]
def wsX0_textWidth_r2 : List Cond := [Cond.methodLink RX0 172 yX0_hasColumn, Cond.static yX0_hasColumn, Cond.code yX0_hasColumn cX0_hasColumn 2 (some .boolean), Cond.methodLink RX0 56 yX0_lineCells, Cond.static yX0_lineCells, Cond.code yX0_lineCells cX0_lineCells 9 (some .int), Cond.methodLink RX0 154 Lib.Math.abs.name, Cond.static Lib.Math.abs.name, Cond.initialized "java/lang/Math", Cond.code Lib.Math.abs.name Lib.Math.abs.code 1 (some .int), Cond.methodLink RX0 161 Lib.Math.max.name, Cond.static Lib.Math.max.name, Cond.code Lib.Math.max.name Lib.Math.max.code 2 (some .int), Cond.methodLink RX0 164 yX0_direction, Cond.static yX0_direction, Cond.code yX0_direction cX0_direction 2 (some .int), Cond.methodLink RX0 78 yX0_pairOf, Cond.static yX0_pairOf, Cond.code yX0_pairOf cX0_pairOf 2 (some .int)]
def wsX0_textWidth : List Cond := .code yX0_textWidth cX0_textWidth 3 (some .int) :: ((wsX0_textWidth_r1 ++ wsX0_textWidth_r2) ++ wsX00 ++ (vx_atS RX0 75 "java/lang/IllegalArgumentException" ["java/lang/RuntimeException", "java/lang/Exception"]).filter goodWord)
def wsX0_plateFor_r1 : List Cond := [Cond.methodLink RX0 97 yX0_packedWidth, Cond.instanceMethod yX0_packedWidth, Cond.selects RX0 yX0_packedWidth yX0_packedWidth, Cond.initialized RX0, Cond.code yX0_packedWidth cX0_packedWidth 5 (some .int), Cond.fieldLink RX0 9 "SignRail" "shapes" "[I", Cond.fieldLink RX0 13 "SignRail" "spaces" "[I", Cond.methodLink RX0 175 yX0_manyOf, Cond.static yX0_manyOf, Cond.code yX0_manyOf cX0_manyOf 1 (some .int), Cond.methodLink RX0 178 yX0_glyphAt, Cond.static yX0_glyphAt, Cond.code yX0_glyphAt cX0_glyphAt 2 (some .int), Cond.methodLink RX0 67 yX0_shapeWidth, Cond.static yX0_shapeWidth, Cond.code yX0_shapeWidth cX0_shapeWidth 4 (some .int), Cond.methodLink RX0 172 yX0_hasColumn, Cond.static yX0_hasColumn, Cond.code yX0_hasColumn cX0_hasColumn 2 (some .boolean), Cond.methodLink RX0 56 yX0_lineCells, Cond.static yX0_lineCells, Cond.code yX0_lineCells cX0_lineCells 9 (some .int), Cond.methodLink RX0 154 Lib.Math.abs.name, Cond.static Lib.Math.abs.name]
def wsX0_plateFor_r2 : List Cond := [Cond.initialized "java/lang/Math", Cond.code Lib.Math.abs.name Lib.Math.abs.code 1 (some .int), Cond.methodLink RX0 161 Lib.Math.max.name, Cond.static Lib.Math.max.name, Cond.code Lib.Math.max.name Lib.Math.max.code 2 (some .int), Cond.methodLink RX0 164 yX0_direction, Cond.static yX0_direction, Cond.code yX0_direction cX0_direction 2 (some .int), Cond.methodLink RX0 78 yX0_pairOf, Cond.static yX0_pairOf, Cond.code yX0_pairOf cX0_pairOf 2 (some .int)]
def wsX0_plateFor : List Cond := .code yX0_plateFor cX0_plateFor 3 (some .int) :: ((wsX0_plateFor_r1 ++ wsX0_plateFor_r2) ++ wsX00)
def wsX0_engrave : List Cond := .code yX0_engrave cX0_engrave 5 none :: ([.fieldLink RX0 22 "SignRail" "signTexts" "[I", .fieldLink RX0 28 "SignRail" "signShapes" "[I", .fieldLink RX0 9 "SignRail" "shapes" "[I", .fieldLink RX0 31 "SignRail" "costSoFar" "J", .methodLink RX0 175 yX0_manyOf, .static yX0_manyOf, .initialized RX0, .code yX0_manyOf cX0_manyOf 1 (some .int), .methodLink RX0 178 yX0_glyphAt, .static yX0_glyphAt, .code yX0_glyphAt cX0_glyphAt 2 (some .int)] ++ wsX00)
def wsX0_cut_r1 : List Cond := [Cond.classLink RX0 71 "java/lang/IllegalArgumentException", Cond.initialized "java/lang/IllegalArgumentException", Cond.classLink RX0 105 "java/lang/IllegalStateException", Cond.initialized "java/lang/IllegalStateException", Cond.fieldLink RX0 22 "SignRail" "signTexts" "[I", Cond.fieldLink RX0 25 "SignRail" "signDistances" "[I", Cond.methodLink RX0 81 yX0_requireExit, Cond.static yX0_requireExit, Cond.initialized RX0, Cond.code yX0_requireExit cX0_requireExit 2 none, Cond.classLink RX0 135 "java/lang/IndexOutOfBoundsException", Cond.initialized "java/lang/IndexOutOfBoundsException", Cond.methodLink RX0 85 yX0_requirePlace, Cond.static yX0_requirePlace, Cond.code yX0_requirePlace cX0_requirePlace 1 none, Cond.methodLink RX0 91 yX0_requireText, Cond.static yX0_requireText, Cond.code yX0_requireText cX0_requireText 2 none, Cond.methodLink RX0 94 yX0_pack, Cond.static yX0_pack, Cond.code yX0_pack cX0_pack 2 (some .int), Cond.methodLink RX0 102 yX0_plateFor, Cond.instanceMethod yX0_plateFor, Cond.selects RX0 yX0_plateFor yX0_plateFor]
def wsX0_cut_r2 : List Cond := [Cond.code yX0_plateFor cX0_plateFor 3 (some .int), Cond.methodLink RX0 97 yX0_packedWidth, Cond.instanceMethod yX0_packedWidth, Cond.selects RX0 yX0_packedWidth yX0_packedWidth, Cond.code yX0_packedWidth cX0_packedWidth 5 (some .int), Cond.fieldLink RX0 9 "SignRail" "shapes" "[I", Cond.fieldLink RX0 13 "SignRail" "spaces" "[I", Cond.methodLink RX0 175 yX0_manyOf, Cond.static yX0_manyOf, Cond.code yX0_manyOf cX0_manyOf 1 (some .int), Cond.methodLink RX0 178 yX0_glyphAt, Cond.static yX0_glyphAt, Cond.code yX0_glyphAt cX0_glyphAt 2 (some .int), Cond.methodLink RX0 67 yX0_shapeWidth, Cond.static yX0_shapeWidth, Cond.code yX0_shapeWidth cX0_shapeWidth 4 (some .int), Cond.methodLink RX0 172 yX0_hasColumn, Cond.static yX0_hasColumn, Cond.code yX0_hasColumn cX0_hasColumn 2 (some .boolean), Cond.methodLink RX0 56 yX0_lineCells, Cond.static yX0_lineCells, Cond.code yX0_lineCells cX0_lineCells 9 (some .int), Cond.methodLink RX0 154 Lib.Math.abs.name, Cond.static Lib.Math.abs.name]
def wsX0_cut_r3 : List Cond := [Cond.initialized "java/lang/Math", Cond.code Lib.Math.abs.name Lib.Math.abs.code 1 (some .int), Cond.methodLink RX0 161 Lib.Math.max.name, Cond.static Lib.Math.max.name, Cond.code Lib.Math.max.name Lib.Math.max.code 2 (some .int), Cond.methodLink RX0 164 yX0_direction, Cond.static yX0_direction, Cond.code yX0_direction cX0_direction 2 (some .int), Cond.methodLink RX0 78 yX0_pairOf, Cond.static yX0_pairOf, Cond.code yX0_pairOf cX0_pairOf 2 (some .int), Cond.methodLink RX0 88 yX0_wayOf, Cond.static yX0_wayOf, Cond.code yX0_wayOf cX0_wayOf 2 (some .int), Cond.methodLink RX0 110 yX0_engrave, Cond.instanceMethod yX0_engrave, Cond.selects RX0 yX0_engrave yX0_engrave, Cond.code yX0_engrave cX0_engrave 5 none, Cond.fieldLink RX0 28 "SignRail" "signShapes" "[I", Cond.fieldLink RX0 31 "SignRail" "costSoFar" "J", Cond.methodLink RX0 60 yX0_forgetWalks, Cond.instanceMethod yX0_forgetWalks, Cond.selects RX0 yX0_forgetWalks yX0_forgetWalks, Cond.code yX0_forgetWalks cX0_forgetWalks 1 none]
def wsX0_cut_r4 : List Cond := [Cond.fieldLink RX0 35 "SignRail" "keptGoal" "I"]
def wsX0_cut : List Cond := .code yX0_cut cX0_cut 9 (some .int) :: ((wsX0_cut_r1 ++ (wsX0_cut_r2 ++ (wsX0_cut_r3 ++ wsX0_cut_r4))) ++ wsX00 ++ (vx_atS RX0 75 "java/lang/IllegalArgumentException" ["java/lang/RuntimeException", "java/lang/Exception"]).filter goodWord ++ (vx_atS RX0 109 "java/lang/IllegalStateException" ["java/lang/RuntimeException", "java/lang/Exception"]).filter goodWord ++ (vx_atS RX0 139 "java/lang/IndexOutOfBoundsException" ["java/lang/RuntimeException", "java/lang/Exception"]).filter goodWord)
def wsX0_remove : List Cond := .code yX0_remove cX0_remove 5 (some .boolean) :: ([.fieldLink RX0 22 "SignRail" "signTexts" "[I", .methodLink RX0 81 yX0_requireExit, .static yX0_requireExit, .initialized RX0, .code yX0_requireExit cX0_requireExit 2 none, .classLink RX0 135 "java/lang/IndexOutOfBoundsException", .initialized "java/lang/IndexOutOfBoundsException", .methodLink RX0 85 yX0_requirePlace, .static yX0_requirePlace, .code yX0_requirePlace cX0_requirePlace 1 none, .methodLink RX0 88 yX0_wayOf, .static yX0_wayOf, .code yX0_wayOf cX0_wayOf 2 (some .int), .methodLink RX0 60 yX0_forgetWalks, .instanceMethod yX0_forgetWalks, .selects RX0 yX0_forgetWalks yX0_forgetWalks, .code yX0_forgetWalks cX0_forgetWalks 1 none, .fieldLink RX0 35 "SignRail" "keptGoal" "I"] ++ wsX00 ++ (vx_atS RX0 139 "java/lang/IndexOutOfBoundsException" ["java/lang/RuntimeException", "java/lang/Exception"]).filter goodWord)
def wsX0_isOutdated : List Cond := .code yX0_isOutdated cX0_isOutdated 4 (some .boolean) :: ([.fieldLink RX0 22 "SignRail" "signTexts" "[I", .fieldLink RX0 28 "SignRail" "signShapes" "[I", .fieldLink RX0 9 "SignRail" "shapes" "[I", .methodLink RX0 175 yX0_manyOf, .static yX0_manyOf, .initialized RX0, .code yX0_manyOf cX0_manyOf 1 (some .int), .methodLink RX0 178 yX0_glyphAt, .static yX0_glyphAt, .code yX0_glyphAt cX0_glyphAt 2 (some .int)] ++ wsX00)
def wsX0_isOld_r1 : List Cond := [Cond.methodLink RX0 81 yX0_requireExit, Cond.static yX0_requireExit, Cond.initialized RX0, Cond.code yX0_requireExit cX0_requireExit 2 none, Cond.classLink RX0 135 "java/lang/IndexOutOfBoundsException", Cond.initialized "java/lang/IndexOutOfBoundsException", Cond.methodLink RX0 85 yX0_requirePlace, Cond.static yX0_requirePlace, Cond.code yX0_requirePlace cX0_requirePlace 1 none, Cond.methodLink RX0 88 yX0_wayOf, Cond.static yX0_wayOf, Cond.code yX0_wayOf cX0_wayOf 2 (some .int), Cond.methodLink RX0 113 yX0_isOutdated, Cond.instanceMethod yX0_isOutdated, Cond.selects RX0 yX0_isOutdated yX0_isOutdated, Cond.code yX0_isOutdated cX0_isOutdated 4 (some .boolean), Cond.fieldLink RX0 22 "SignRail" "signTexts" "[I", Cond.fieldLink RX0 28 "SignRail" "signShapes" "[I", Cond.fieldLink RX0 9 "SignRail" "shapes" "[I", Cond.methodLink RX0 175 yX0_manyOf, Cond.static yX0_manyOf, Cond.code yX0_manyOf cX0_manyOf 1 (some .int), Cond.methodLink RX0 178 yX0_glyphAt, Cond.static yX0_glyphAt]
def wsX0_isOld_r2 : List Cond := [Cond.code yX0_glyphAt cX0_glyphAt 2 (some .int)]
def wsX0_isOld : List Cond := .code yX0_isOld cX0_isOld 3 (some .boolean) :: ((wsX0_isOld_r1 ++ wsX0_isOld_r2) ++ wsX00 ++ (vx_atS RX0 139 "java/lang/IndexOutOfBoundsException" ["java/lang/RuntimeException", "java/lang/Exception"]).filter goodWord)
def wsX0_requirePlatesForOutdated_r1 : List Cond := [Cond.classLink RX0 105 "java/lang/IllegalStateException", Cond.initialized "java/lang/IllegalStateException", Cond.fieldLink RX0 22 "SignRail" "signTexts" "[I", Cond.methodLink RX0 113 yX0_isOutdated, Cond.instanceMethod yX0_isOutdated, Cond.selects RX0 yX0_isOutdated yX0_isOutdated, Cond.initialized RX0, Cond.code yX0_isOutdated cX0_isOutdated 4 (some .boolean), Cond.fieldLink RX0 28 "SignRail" "signShapes" "[I", Cond.fieldLink RX0 9 "SignRail" "shapes" "[I", Cond.methodLink RX0 175 yX0_manyOf, Cond.static yX0_manyOf, Cond.code yX0_manyOf cX0_manyOf 1 (some .int), Cond.methodLink RX0 178 yX0_glyphAt, Cond.static yX0_glyphAt, Cond.code yX0_glyphAt cX0_glyphAt 2 (some .int), Cond.methodLink RX0 102 yX0_plateFor, Cond.instanceMethod yX0_plateFor, Cond.selects RX0 yX0_plateFor yX0_plateFor, Cond.code yX0_plateFor cX0_plateFor 3 (some .int), Cond.methodLink RX0 97 yX0_packedWidth, Cond.instanceMethod yX0_packedWidth, Cond.selects RX0 yX0_packedWidth yX0_packedWidth, Cond.code yX0_packedWidth cX0_packedWidth 5 (some .int)]
def wsX0_requirePlatesForOutdated_r2 : List Cond := [Cond.fieldLink RX0 13 "SignRail" "spaces" "[I", Cond.methodLink RX0 67 yX0_shapeWidth, Cond.static yX0_shapeWidth, Cond.code yX0_shapeWidth cX0_shapeWidth 4 (some .int), Cond.methodLink RX0 172 yX0_hasColumn, Cond.static yX0_hasColumn, Cond.code yX0_hasColumn cX0_hasColumn 2 (some .boolean), Cond.methodLink RX0 56 yX0_lineCells, Cond.static yX0_lineCells, Cond.code yX0_lineCells cX0_lineCells 9 (some .int), Cond.methodLink RX0 154 Lib.Math.abs.name, Cond.static Lib.Math.abs.name, Cond.initialized "java/lang/Math", Cond.code Lib.Math.abs.name Lib.Math.abs.code 1 (some .int), Cond.methodLink RX0 161 Lib.Math.max.name, Cond.static Lib.Math.max.name, Cond.code Lib.Math.max.name Lib.Math.max.code 2 (some .int), Cond.methodLink RX0 164 yX0_direction, Cond.static yX0_direction, Cond.code yX0_direction cX0_direction 2 (some .int), Cond.methodLink RX0 78 yX0_pairOf, Cond.static yX0_pairOf, Cond.code yX0_pairOf cX0_pairOf 2 (some .int)]
def wsX0_requirePlatesForOutdated : List Cond := .code yX0_requirePlatesForOutdated cX0_requirePlatesForOutdated 2 none :: ((wsX0_requirePlatesForOutdated_r1 ++ wsX0_requirePlatesForOutdated_r2) ++ wsX00 ++ (vx_atS RX0 109 "java/lang/IllegalStateException" ["java/lang/RuntimeException", "java/lang/Exception"]).filter goodWord)
def wsX0_remake_r1 : List Cond := [Cond.fieldLink RX0 22 "SignRail" "signTexts" "[I", Cond.methodLink RX0 117 yX0_requirePlatesForOutdated, Cond.instanceMethod yX0_requirePlatesForOutdated, Cond.selects RX0 yX0_requirePlatesForOutdated yX0_requirePlatesForOutdated, Cond.initialized RX0, Cond.code yX0_requirePlatesForOutdated cX0_requirePlatesForOutdated 2 none, Cond.classLink RX0 105 "java/lang/IllegalStateException", Cond.initialized "java/lang/IllegalStateException", Cond.methodLink RX0 113 yX0_isOutdated, Cond.instanceMethod yX0_isOutdated, Cond.selects RX0 yX0_isOutdated yX0_isOutdated, Cond.code yX0_isOutdated cX0_isOutdated 4 (some .boolean), Cond.fieldLink RX0 28 "SignRail" "signShapes" "[I", Cond.fieldLink RX0 9 "SignRail" "shapes" "[I", Cond.methodLink RX0 175 yX0_manyOf, Cond.static yX0_manyOf, Cond.code yX0_manyOf cX0_manyOf 1 (some .int), Cond.methodLink RX0 178 yX0_glyphAt, Cond.static yX0_glyphAt, Cond.code yX0_glyphAt cX0_glyphAt 2 (some .int), Cond.methodLink RX0 102 yX0_plateFor, Cond.instanceMethod yX0_plateFor, Cond.selects RX0 yX0_plateFor yX0_plateFor, Cond.code yX0_plateFor cX0_plateFor 3 (some .int)]
def wsX0_remake_r2 : List Cond := [Cond.methodLink RX0 97 yX0_packedWidth, Cond.instanceMethod yX0_packedWidth, Cond.selects RX0 yX0_packedWidth yX0_packedWidth, Cond.code yX0_packedWidth cX0_packedWidth 5 (some .int), Cond.fieldLink RX0 13 "SignRail" "spaces" "[I", Cond.methodLink RX0 67 yX0_shapeWidth, Cond.static yX0_shapeWidth, Cond.code yX0_shapeWidth cX0_shapeWidth 4 (some .int), Cond.methodLink RX0 172 yX0_hasColumn, Cond.static yX0_hasColumn, Cond.code yX0_hasColumn cX0_hasColumn 2 (some .boolean), Cond.methodLink RX0 56 yX0_lineCells, Cond.static yX0_lineCells, Cond.code yX0_lineCells cX0_lineCells 9 (some .int), Cond.methodLink RX0 154 Lib.Math.abs.name, Cond.static Lib.Math.abs.name, Cond.initialized "java/lang/Math", Cond.code Lib.Math.abs.name Lib.Math.abs.code 1 (some .int), Cond.methodLink RX0 161 Lib.Math.max.name, Cond.static Lib.Math.max.name, Cond.code Lib.Math.max.name Lib.Math.max.code 2 (some .int), Cond.methodLink RX0 164 yX0_direction, Cond.static yX0_direction, Cond.code yX0_direction cX0_direction 2 (some .int)]
def wsX0_remake_r3 : List Cond := [Cond.methodLink RX0 78 yX0_pairOf, Cond.static yX0_pairOf, Cond.code yX0_pairOf cX0_pairOf 2 (some .int), Cond.methodLink RX0 110 yX0_engrave, Cond.instanceMethod yX0_engrave, Cond.selects RX0 yX0_engrave yX0_engrave, Cond.code yX0_engrave cX0_engrave 5 none, Cond.fieldLink RX0 31 "SignRail" "costSoFar" "J", Cond.methodLink RX0 60 yX0_forgetWalks, Cond.instanceMethod yX0_forgetWalks, Cond.selects RX0 yX0_forgetWalks yX0_forgetWalks, Cond.code yX0_forgetWalks cX0_forgetWalks 1 none, Cond.fieldLink RX0 35 "SignRail" "keptGoal" "I"]
def wsX0_remake : List Cond := .code yX0_remake cX0_remake 3 (some .int) :: ((wsX0_remake_r1 ++ (wsX0_remake_r2 ++ wsX0_remake_r3)) ++ wsX00 ++ (vx_atS RX0 109 "java/lang/IllegalStateException" ["java/lang/RuntimeException", "java/lang/Exception"]).filter goodWord)
def wsX0_nearestGlyph : List Cond := .code yX0_nearestGlyph cX0_nearestGlyph 5 (some .int) :: ([.fieldLink RX0 9 "SignRail" "shapes" "[I", .methodLink RX0 63 yX0_differing, .static yX0_differing, .initialized RX0, .code yX0_differing cX0_differing 2 (some .int), .methodLink RX0 167 yJ6_bitCount_0f7a4, .static yJ6_bitCount_0f7a4, .initialized RJ6, .code yJ6_bitCount_0f7a4 cJ6_bitCount_0f7a4 1 (some .int), .constant RJ6 265 (1431655765), .constant RJ6 266 (858993459), .constant RJ6 267 (252645135)] ++ wsX00)
def wsX0_readGlyph : List Cond := .code yX0_readGlyph cX0_readGlyph 6 (some .int) :: ([.fieldLink RX0 9 "SignRail" "shapes" "[I", .methodLink RX0 184 yX0_nearestGlyph, .instanceMethod yX0_nearestGlyph, .selects RX0 yX0_nearestGlyph yX0_nearestGlyph, .initialized RX0, .code yX0_nearestGlyph cX0_nearestGlyph 5 (some .int), .methodLink RX0 63 yX0_differing, .static yX0_differing, .code yX0_differing cX0_differing 2 (some .int), .methodLink RX0 167 yJ6_bitCount_0f7a4, .static yJ6_bitCount_0f7a4, .initialized RJ6, .code yJ6_bitCount_0f7a4 cJ6_bitCount_0f7a4 1 (some .int), .constant RJ6 265 (1431655765), .constant RJ6 266 (858993459), .constant RJ6 267 (252645135)] ++ wsX00)
def wsX0_readText_r1 : List Cond := [Cond.fieldLink RX0 22 "SignRail" "signTexts" "[I", Cond.fieldLink RX0 28 "SignRail" "signShapes" "[I", Cond.fieldLink RX0 25 "SignRail" "signDistances" "[I", Cond.methodLink RX0 175 yX0_manyOf, Cond.static yX0_manyOf, Cond.initialized RX0, Cond.code yX0_manyOf cX0_manyOf 1 (some .int), Cond.methodLink RX0 181 yX0_readGlyph, Cond.instanceMethod yX0_readGlyph, Cond.selects RX0 yX0_readGlyph yX0_readGlyph, Cond.code yX0_readGlyph cX0_readGlyph 6 (some .int), Cond.fieldLink RX0 9 "SignRail" "shapes" "[I", Cond.methodLink RX0 184 yX0_nearestGlyph, Cond.instanceMethod yX0_nearestGlyph, Cond.selects RX0 yX0_nearestGlyph yX0_nearestGlyph, Cond.code yX0_nearestGlyph cX0_nearestGlyph 5 (some .int), Cond.methodLink RX0 63 yX0_differing, Cond.static yX0_differing, Cond.code yX0_differing cX0_differing 2 (some .int), Cond.methodLink RX0 167 yJ6_bitCount_0f7a4, Cond.static yJ6_bitCount_0f7a4, Cond.initialized RJ6, Cond.code yJ6_bitCount_0f7a4 cJ6_bitCount_0f7a4 1 (some .int), Cond.constant RJ6 265 (1431655765)]
def wsX0_readText_r2 : List Cond := [Cond.constant RJ6 266 (858993459), Cond.constant RJ6 267 (252645135), Cond.methodLink RX0 94 yX0_pack, Cond.static yX0_pack, Cond.code yX0_pack cX0_pack 2 (some .int)]
def wsX0_readText : List Cond := .code yX0_readText cX0_readText 6 (some .int) :: ((wsX0_readText_r1 ++ wsX0_readText_r2) ++ wsX00)
def wsX0_numberOf : List Cond := .code yX0_numberOf cX0_numberOf 1 (some .int) :: ([])
def wsX0_read_r1 : List Cond := [Cond.fieldLink RX0 22 "SignRail" "signTexts" "[I", Cond.methodLink RX0 81 yX0_requireExit, Cond.static yX0_requireExit, Cond.initialized RX0, Cond.code yX0_requireExit cX0_requireExit 2 none, Cond.classLink RX0 135 "java/lang/IndexOutOfBoundsException", Cond.initialized "java/lang/IndexOutOfBoundsException", Cond.methodLink RX0 85 yX0_requirePlace, Cond.static yX0_requirePlace, Cond.code yX0_requirePlace cX0_requirePlace 1 none, Cond.methodLink RX0 88 yX0_wayOf, Cond.static yX0_wayOf, Cond.code yX0_wayOf cX0_wayOf 2 (some .int), Cond.methodLink RX0 120 yX0_readText, Cond.instanceMethod yX0_readText, Cond.selects RX0 yX0_readText yX0_readText, Cond.code yX0_readText cX0_readText 6 (some .int), Cond.fieldLink RX0 28 "SignRail" "signShapes" "[I", Cond.fieldLink RX0 25 "SignRail" "signDistances" "[I", Cond.methodLink RX0 175 yX0_manyOf, Cond.static yX0_manyOf, Cond.code yX0_manyOf cX0_manyOf 1 (some .int), Cond.methodLink RX0 181 yX0_readGlyph, Cond.instanceMethod yX0_readGlyph]
def wsX0_read_r2 : List Cond := [Cond.selects RX0 yX0_readGlyph yX0_readGlyph, Cond.code yX0_readGlyph cX0_readGlyph 6 (some .int), Cond.fieldLink RX0 9 "SignRail" "shapes" "[I", Cond.methodLink RX0 184 yX0_nearestGlyph, Cond.instanceMethod yX0_nearestGlyph, Cond.selects RX0 yX0_nearestGlyph yX0_nearestGlyph, Cond.code yX0_nearestGlyph cX0_nearestGlyph 5 (some .int), Cond.methodLink RX0 63 yX0_differing, Cond.static yX0_differing, Cond.code yX0_differing cX0_differing 2 (some .int), Cond.methodLink RX0 167 yJ6_bitCount_0f7a4, Cond.static yJ6_bitCount_0f7a4, Cond.initialized RJ6, Cond.code yJ6_bitCount_0f7a4 cJ6_bitCount_0f7a4 1 (some .int), Cond.constant RJ6 265 (1431655765), Cond.constant RJ6 266 (858993459), Cond.constant RJ6 267 (252645135), Cond.methodLink RX0 94 yX0_pack, Cond.static yX0_pack, Cond.code yX0_pack cX0_pack 2 (some .int), Cond.methodLink RX0 123 yX0_numberOf, Cond.static yX0_numberOf, Cond.code yX0_numberOf cX0_numberOf 1 (some .int)]
def wsX0_read : List Cond := .code yX0_read cX0_read 4 (some .int) :: ((wsX0_read_r1 ++ wsX0_read_r2) ++ wsX00 ++ (vx_atS RX0 139 "java/lang/IndexOutOfBoundsException" ["java/lang/RuntimeException", "java/lang/Exception"]).filter goodWord)
def wsX0_cost : List Cond := .code yX0_cost cX0_cost 1 (some .long) :: ([.fieldLink RX0 31 "SignRail" "costSoFar" "J"] ++ wsX00)
def wsX0_isReadAs_r1 : List Cond := [Cond.fieldLink RX0 22 "SignRail" "signTexts" "[I", Cond.methodLink RX0 175 yX0_manyOf, Cond.static yX0_manyOf, Cond.initialized RX0, Cond.code yX0_manyOf cX0_manyOf 1 (some .int), Cond.methodLink RX0 120 yX0_readText, Cond.instanceMethod yX0_readText, Cond.selects RX0 yX0_readText yX0_readText, Cond.code yX0_readText cX0_readText 6 (some .int), Cond.fieldLink RX0 28 "SignRail" "signShapes" "[I", Cond.fieldLink RX0 25 "SignRail" "signDistances" "[I", Cond.methodLink RX0 181 yX0_readGlyph, Cond.instanceMethod yX0_readGlyph, Cond.selects RX0 yX0_readGlyph yX0_readGlyph, Cond.code yX0_readGlyph cX0_readGlyph 6 (some .int), Cond.fieldLink RX0 9 "SignRail" "shapes" "[I", Cond.methodLink RX0 184 yX0_nearestGlyph, Cond.instanceMethod yX0_nearestGlyph, Cond.selects RX0 yX0_nearestGlyph yX0_nearestGlyph, Cond.code yX0_nearestGlyph cX0_nearestGlyph 5 (some .int), Cond.methodLink RX0 63 yX0_differing, Cond.static yX0_differing, Cond.code yX0_differing cX0_differing 2 (some .int), Cond.methodLink RX0 167 yJ6_bitCount_0f7a4]
def wsX0_isReadAs_r2 : List Cond := [Cond.static yJ6_bitCount_0f7a4, Cond.initialized RJ6, Cond.code yJ6_bitCount_0f7a4 cJ6_bitCount_0f7a4 1 (some .int), Cond.constant RJ6 265 (1431655765), Cond.constant RJ6 266 (858993459), Cond.constant RJ6 267 (252645135), Cond.methodLink RX0 94 yX0_pack, Cond.static yX0_pack, Cond.code yX0_pack cX0_pack 2 (some .int)]
def wsX0_isReadAs : List Cond := .code yX0_isReadAs cX0_isReadAs 3 (some .boolean) :: ((wsX0_isReadAs_r1 ++ wsX0_isReadAs_r2) ++ wsX00)
def wsX0_nextWay_r1 : List Cond := [Cond.fieldLink RX0 16 "SignRail" "leads" "[I", Cond.methodLink RX0 88 yX0_wayOf, Cond.static yX0_wayOf, Cond.initialized RX0, Cond.code yX0_wayOf cX0_wayOf 2 (some .int), Cond.methodLink RX0 190 yX0_isReadAs, Cond.instanceMethod yX0_isReadAs, Cond.selects RX0 yX0_isReadAs yX0_isReadAs, Cond.code yX0_isReadAs cX0_isReadAs 3 (some .boolean), Cond.fieldLink RX0 22 "SignRail" "signTexts" "[I", Cond.methodLink RX0 175 yX0_manyOf, Cond.static yX0_manyOf, Cond.code yX0_manyOf cX0_manyOf 1 (some .int), Cond.methodLink RX0 120 yX0_readText, Cond.instanceMethod yX0_readText, Cond.selects RX0 yX0_readText yX0_readText, Cond.code yX0_readText cX0_readText 6 (some .int), Cond.fieldLink RX0 28 "SignRail" "signShapes" "[I", Cond.fieldLink RX0 25 "SignRail" "signDistances" "[I", Cond.methodLink RX0 181 yX0_readGlyph, Cond.instanceMethod yX0_readGlyph, Cond.selects RX0 yX0_readGlyph yX0_readGlyph, Cond.code yX0_readGlyph cX0_readGlyph 6 (some .int), Cond.fieldLink RX0 9 "SignRail" "shapes" "[I"]
def wsX0_nextWay_r2 : List Cond := [Cond.methodLink RX0 184 yX0_nearestGlyph, Cond.instanceMethod yX0_nearestGlyph, Cond.selects RX0 yX0_nearestGlyph yX0_nearestGlyph, Cond.code yX0_nearestGlyph cX0_nearestGlyph 5 (some .int), Cond.methodLink RX0 63 yX0_differing, Cond.static yX0_differing, Cond.code yX0_differing cX0_differing 2 (some .int), Cond.methodLink RX0 167 yJ6_bitCount_0f7a4, Cond.static yJ6_bitCount_0f7a4, Cond.initialized RJ6, Cond.code yJ6_bitCount_0f7a4 cJ6_bitCount_0f7a4 1 (some .int), Cond.constant RJ6 265 (1431655765), Cond.constant RJ6 266 (858993459), Cond.constant RJ6 267 (252645135), Cond.methodLink RX0 94 yX0_pack, Cond.static yX0_pack, Cond.code yX0_pack cX0_pack 2 (some .int)]
def wsX0_nextWay : List Cond := .code yX0_nextWay cX0_nextWay 7 (some .int) :: ((wsX0_nextWay_r1 ++ wsX0_nextWay_r2) ++ wsX00)
def wsX0_stepsToArrive_r1 : List Cond := [Cond.fieldLink RX0 19 "SignRail" "names" "[I", Cond.fieldLink RX0 16 "SignRail" "leads" "[I", Cond.methodLink RX0 187 yX0_nextWay, Cond.instanceMethod yX0_nextWay, Cond.selects RX0 yX0_nextWay yX0_nextWay, Cond.initialized RX0, Cond.code yX0_nextWay cX0_nextWay 7 (some .int), Cond.methodLink RX0 88 yX0_wayOf, Cond.static yX0_wayOf, Cond.code yX0_wayOf cX0_wayOf 2 (some .int), Cond.methodLink RX0 190 yX0_isReadAs, Cond.instanceMethod yX0_isReadAs, Cond.selects RX0 yX0_isReadAs yX0_isReadAs, Cond.code yX0_isReadAs cX0_isReadAs 3 (some .boolean), Cond.fieldLink RX0 22 "SignRail" "signTexts" "[I", Cond.methodLink RX0 175 yX0_manyOf, Cond.static yX0_manyOf, Cond.code yX0_manyOf cX0_manyOf 1 (some .int), Cond.methodLink RX0 120 yX0_readText, Cond.instanceMethod yX0_readText, Cond.selects RX0 yX0_readText yX0_readText, Cond.code yX0_readText cX0_readText 6 (some .int), Cond.fieldLink RX0 28 "SignRail" "signShapes" "[I", Cond.fieldLink RX0 25 "SignRail" "signDistances" "[I"]
def wsX0_stepsToArrive_r2 : List Cond := [Cond.methodLink RX0 181 yX0_readGlyph, Cond.instanceMethod yX0_readGlyph, Cond.selects RX0 yX0_readGlyph yX0_readGlyph, Cond.code yX0_readGlyph cX0_readGlyph 6 (some .int), Cond.fieldLink RX0 9 "SignRail" "shapes" "[I", Cond.methodLink RX0 184 yX0_nearestGlyph, Cond.instanceMethod yX0_nearestGlyph, Cond.selects RX0 yX0_nearestGlyph yX0_nearestGlyph, Cond.code yX0_nearestGlyph cX0_nearestGlyph 5 (some .int), Cond.methodLink RX0 63 yX0_differing, Cond.static yX0_differing, Cond.code yX0_differing cX0_differing 2 (some .int), Cond.methodLink RX0 167 yJ6_bitCount_0f7a4, Cond.static yJ6_bitCount_0f7a4, Cond.initialized RJ6, Cond.code yJ6_bitCount_0f7a4 cJ6_bitCount_0f7a4 1 (some .int), Cond.constant RJ6 265 (1431655765), Cond.constant RJ6 266 (858993459), Cond.constant RJ6 267 (252645135), Cond.methodLink RX0 94 yX0_pack, Cond.static yX0_pack, Cond.code yX0_pack cX0_pack 2 (some .int)]
def wsX0_stepsToArrive : List Cond := .code yX0_stepsToArrive cX0_stepsToArrive 7 (some .int) :: ((wsX0_stepsToArrive_r1 ++ wsX0_stepsToArrive_r2) ++ wsX00)
def wsX0_walk_r1 : List Cond := [Cond.fieldLink RX0 35 "SignRail" "keptGoal" "I", Cond.fieldLink RX0 39 "SignRail" "keptSteps" "[I", Cond.methodLink RX0 85 yX0_requirePlace, Cond.static yX0_requirePlace, Cond.initialized RX0, Cond.code yX0_requirePlace cX0_requirePlace 1 none, Cond.classLink RX0 135 "java/lang/IndexOutOfBoundsException", Cond.initialized "java/lang/IndexOutOfBoundsException", Cond.methodLink RX0 91 yX0_requireText, Cond.static yX0_requireText, Cond.code yX0_requireText cX0_requireText 2 none, Cond.classLink RX0 71 "java/lang/IllegalArgumentException", Cond.initialized "java/lang/IllegalArgumentException", Cond.methodLink RX0 94 yX0_pack, Cond.static yX0_pack, Cond.code yX0_pack cX0_pack 2 (some .int), Cond.methodLink RX0 42 yJ7_fill_53178, Cond.static yJ7_fill_53178, Cond.initialized RJ7, Cond.code yJ7_fill_53178 cJ7_fill_53178 4 none, Cond.methodLink RX0 126 yX0_stepsToArrive, Cond.instanceMethod yX0_stepsToArrive, Cond.selects RX0 yX0_stepsToArrive yX0_stepsToArrive, Cond.code yX0_stepsToArrive cX0_stepsToArrive 7 (some .int)]
def wsX0_walk_r2 : List Cond := [Cond.fieldLink RX0 19 "SignRail" "names" "[I", Cond.fieldLink RX0 16 "SignRail" "leads" "[I", Cond.methodLink RX0 187 yX0_nextWay, Cond.instanceMethod yX0_nextWay, Cond.selects RX0 yX0_nextWay yX0_nextWay, Cond.code yX0_nextWay cX0_nextWay 7 (some .int), Cond.methodLink RX0 88 yX0_wayOf, Cond.static yX0_wayOf, Cond.code yX0_wayOf cX0_wayOf 2 (some .int), Cond.methodLink RX0 190 yX0_isReadAs, Cond.instanceMethod yX0_isReadAs, Cond.selects RX0 yX0_isReadAs yX0_isReadAs, Cond.code yX0_isReadAs cX0_isReadAs 3 (some .boolean), Cond.fieldLink RX0 22 "SignRail" "signTexts" "[I", Cond.methodLink RX0 175 yX0_manyOf, Cond.static yX0_manyOf, Cond.code yX0_manyOf cX0_manyOf 1 (some .int), Cond.methodLink RX0 120 yX0_readText, Cond.instanceMethod yX0_readText, Cond.selects RX0 yX0_readText yX0_readText, Cond.code yX0_readText cX0_readText 6 (some .int), Cond.fieldLink RX0 28 "SignRail" "signShapes" "[I", Cond.fieldLink RX0 25 "SignRail" "signDistances" "[I", Cond.methodLink RX0 181 yX0_readGlyph]
def wsX0_walk_r3 : List Cond := [Cond.instanceMethod yX0_readGlyph, Cond.selects RX0 yX0_readGlyph yX0_readGlyph, Cond.code yX0_readGlyph cX0_readGlyph 6 (some .int), Cond.fieldLink RX0 9 "SignRail" "shapes" "[I", Cond.methodLink RX0 184 yX0_nearestGlyph, Cond.instanceMethod yX0_nearestGlyph, Cond.selects RX0 yX0_nearestGlyph yX0_nearestGlyph, Cond.code yX0_nearestGlyph cX0_nearestGlyph 5 (some .int), Cond.methodLink RX0 63 yX0_differing, Cond.static yX0_differing, Cond.code yX0_differing cX0_differing 2 (some .int), Cond.methodLink RX0 167 yJ6_bitCount_0f7a4, Cond.static yJ6_bitCount_0f7a4, Cond.initialized RJ6, Cond.code yJ6_bitCount_0f7a4 cJ6_bitCount_0f7a4 1 (some .int), Cond.constant RJ6 265 (1431655765), Cond.constant RJ6 266 (858993459), Cond.constant RJ6 267 (252645135)]
def wsX0_walk : List Cond := .code yX0_walk cX0_walk 5 (some .int) :: ((wsX0_walk_r1 ++ (wsX0_walk_r2 ++ wsX0_walk_r3)) ++ wsX00 ++ (vx_atS RX0 139 "java/lang/IndexOutOfBoundsException" ["java/lang/RuntimeException", "java/lang/Exception"]).filter goodWord ++ (vx_atS RX0 75 "java/lang/IllegalArgumentException" ["java/lang/RuntimeException", "java/lang/Exception"]).filter goodWord)
def wsX0_walkBySteps_r1 : List Cond := [Cond.methodLink RX0 85 yX0_requirePlace, Cond.static yX0_requirePlace, Cond.initialized RX0, Cond.code yX0_requirePlace cX0_requirePlace 1 none, Cond.classLink RX0 135 "java/lang/IndexOutOfBoundsException", Cond.initialized "java/lang/IndexOutOfBoundsException", Cond.methodLink RX0 91 yX0_requireText, Cond.static yX0_requireText, Cond.code yX0_requireText cX0_requireText 2 none, Cond.classLink RX0 71 "java/lang/IllegalArgumentException", Cond.initialized "java/lang/IllegalArgumentException", Cond.methodLink RX0 94 yX0_pack, Cond.static yX0_pack, Cond.code yX0_pack cX0_pack 2 (some .int), Cond.methodLink RX0 126 yX0_stepsToArrive, Cond.instanceMethod yX0_stepsToArrive, Cond.selects RX0 yX0_stepsToArrive yX0_stepsToArrive, Cond.code yX0_stepsToArrive cX0_stepsToArrive 7 (some .int), Cond.fieldLink RX0 19 "SignRail" "names" "[I", Cond.fieldLink RX0 16 "SignRail" "leads" "[I", Cond.methodLink RX0 187 yX0_nextWay, Cond.instanceMethod yX0_nextWay, Cond.selects RX0 yX0_nextWay yX0_nextWay, Cond.code yX0_nextWay cX0_nextWay 7 (some .int)]
def wsX0_walkBySteps_r2 : List Cond := [Cond.methodLink RX0 88 yX0_wayOf, Cond.static yX0_wayOf, Cond.code yX0_wayOf cX0_wayOf 2 (some .int), Cond.methodLink RX0 190 yX0_isReadAs, Cond.instanceMethod yX0_isReadAs, Cond.selects RX0 yX0_isReadAs yX0_isReadAs, Cond.code yX0_isReadAs cX0_isReadAs 3 (some .boolean), Cond.fieldLink RX0 22 "SignRail" "signTexts" "[I", Cond.methodLink RX0 175 yX0_manyOf, Cond.static yX0_manyOf, Cond.code yX0_manyOf cX0_manyOf 1 (some .int), Cond.methodLink RX0 120 yX0_readText, Cond.instanceMethod yX0_readText, Cond.selects RX0 yX0_readText yX0_readText, Cond.code yX0_readText cX0_readText 6 (some .int), Cond.fieldLink RX0 28 "SignRail" "signShapes" "[I", Cond.fieldLink RX0 25 "SignRail" "signDistances" "[I", Cond.methodLink RX0 181 yX0_readGlyph, Cond.instanceMethod yX0_readGlyph, Cond.selects RX0 yX0_readGlyph yX0_readGlyph, Cond.code yX0_readGlyph cX0_readGlyph 6 (some .int), Cond.fieldLink RX0 9 "SignRail" "shapes" "[I", Cond.methodLink RX0 184 yX0_nearestGlyph, Cond.instanceMethod yX0_nearestGlyph]
def wsX0_walkBySteps_r3 : List Cond := [Cond.selects RX0 yX0_nearestGlyph yX0_nearestGlyph, Cond.code yX0_nearestGlyph cX0_nearestGlyph 5 (some .int), Cond.methodLink RX0 63 yX0_differing, Cond.static yX0_differing, Cond.code yX0_differing cX0_differing 2 (some .int), Cond.methodLink RX0 167 yJ6_bitCount_0f7a4, Cond.static yJ6_bitCount_0f7a4, Cond.initialized RJ6, Cond.code yJ6_bitCount_0f7a4 cJ6_bitCount_0f7a4 1 (some .int), Cond.constant RJ6 265 (1431655765), Cond.constant RJ6 266 (858993459), Cond.constant RJ6 267 (252645135)]
def wsX0_walkBySteps : List Cond := .code yX0_walkBySteps cX0_walkBySteps 4 (some .int) :: ((wsX0_walkBySteps_r1 ++ (wsX0_walkBySteps_r2 ++ wsX0_walkBySteps_r3)) ++ wsX00 ++ (vx_atS RX0 139 "java/lang/IndexOutOfBoundsException" ["java/lang/RuntimeException", "java/lang/Exception"]).filter goodWord ++ (vx_atS RX0 75 "java/lang/IllegalArgumentException" ["java/lang/RuntimeException", "java/lang/Exception"]).filter goodWord)
def wsX0_placeReached_r1 : List Cond := [Cond.fieldLink RX0 19 "SignRail" "names" "[I", Cond.fieldLink RX0 16 "SignRail" "leads" "[I", Cond.methodLink RX0 187 yX0_nextWay, Cond.instanceMethod yX0_nextWay, Cond.selects RX0 yX0_nextWay yX0_nextWay, Cond.initialized RX0, Cond.code yX0_nextWay cX0_nextWay 7 (some .int), Cond.methodLink RX0 88 yX0_wayOf, Cond.static yX0_wayOf, Cond.code yX0_wayOf cX0_wayOf 2 (some .int), Cond.methodLink RX0 190 yX0_isReadAs, Cond.instanceMethod yX0_isReadAs, Cond.selects RX0 yX0_isReadAs yX0_isReadAs, Cond.code yX0_isReadAs cX0_isReadAs 3 (some .boolean), Cond.fieldLink RX0 22 "SignRail" "signTexts" "[I", Cond.methodLink RX0 175 yX0_manyOf, Cond.static yX0_manyOf, Cond.code yX0_manyOf cX0_manyOf 1 (some .int), Cond.methodLink RX0 120 yX0_readText, Cond.instanceMethod yX0_readText, Cond.selects RX0 yX0_readText yX0_readText, Cond.code yX0_readText cX0_readText 6 (some .int), Cond.fieldLink RX0 28 "SignRail" "signShapes" "[I", Cond.fieldLink RX0 25 "SignRail" "signDistances" "[I"]
def wsX0_placeReached_r2 : List Cond := [Cond.methodLink RX0 181 yX0_readGlyph, Cond.instanceMethod yX0_readGlyph, Cond.selects RX0 yX0_readGlyph yX0_readGlyph, Cond.code yX0_readGlyph cX0_readGlyph 6 (some .int), Cond.fieldLink RX0 9 "SignRail" "shapes" "[I", Cond.methodLink RX0 184 yX0_nearestGlyph, Cond.instanceMethod yX0_nearestGlyph, Cond.selects RX0 yX0_nearestGlyph yX0_nearestGlyph, Cond.code yX0_nearestGlyph cX0_nearestGlyph 5 (some .int), Cond.methodLink RX0 63 yX0_differing, Cond.static yX0_differing, Cond.code yX0_differing cX0_differing 2 (some .int), Cond.methodLink RX0 167 yJ6_bitCount_0f7a4, Cond.static yJ6_bitCount_0f7a4, Cond.initialized RJ6, Cond.code yJ6_bitCount_0f7a4 cJ6_bitCount_0f7a4 1 (some .int), Cond.constant RJ6 265 (1431655765), Cond.constant RJ6 266 (858993459), Cond.constant RJ6 267 (252645135), Cond.methodLink RX0 94 yX0_pack, Cond.static yX0_pack, Cond.code yX0_pack cX0_pack 2 (some .int)]
def wsX0_placeReached : List Cond := .code yX0_placeReached cX0_placeReached 8 (some .int) :: ((wsX0_placeReached_r1 ++ wsX0_placeReached_r2) ++ wsX00)
def wsX0_placeBehind_r1 : List Cond := [Cond.classLink RX0 71 "java/lang/IllegalArgumentException", Cond.initialized "java/lang/IllegalArgumentException", Cond.methodLink RX0 85 yX0_requirePlace, Cond.static yX0_requirePlace, Cond.initialized RX0, Cond.code yX0_requirePlace cX0_requirePlace 1 none, Cond.classLink RX0 135 "java/lang/IndexOutOfBoundsException", Cond.initialized "java/lang/IndexOutOfBoundsException", Cond.methodLink RX0 91 yX0_requireText, Cond.static yX0_requireText, Cond.code yX0_requireText cX0_requireText 2 none, Cond.methodLink RX0 94 yX0_pack, Cond.static yX0_pack, Cond.code yX0_pack cX0_pack 2 (some .int), Cond.methodLink RX0 131 yX0_placeReached, Cond.instanceMethod yX0_placeReached, Cond.selects RX0 yX0_placeReached yX0_placeReached, Cond.code yX0_placeReached cX0_placeReached 8 (some .int), Cond.fieldLink RX0 19 "SignRail" "names" "[I", Cond.fieldLink RX0 16 "SignRail" "leads" "[I", Cond.methodLink RX0 187 yX0_nextWay, Cond.instanceMethod yX0_nextWay, Cond.selects RX0 yX0_nextWay yX0_nextWay, Cond.code yX0_nextWay cX0_nextWay 7 (some .int)]
def wsX0_placeBehind_r2 : List Cond := [Cond.methodLink RX0 88 yX0_wayOf, Cond.static yX0_wayOf, Cond.code yX0_wayOf cX0_wayOf 2 (some .int), Cond.methodLink RX0 190 yX0_isReadAs, Cond.instanceMethod yX0_isReadAs, Cond.selects RX0 yX0_isReadAs yX0_isReadAs, Cond.code yX0_isReadAs cX0_isReadAs 3 (some .boolean), Cond.fieldLink RX0 22 "SignRail" "signTexts" "[I", Cond.methodLink RX0 175 yX0_manyOf, Cond.static yX0_manyOf, Cond.code yX0_manyOf cX0_manyOf 1 (some .int), Cond.methodLink RX0 120 yX0_readText, Cond.instanceMethod yX0_readText, Cond.selects RX0 yX0_readText yX0_readText, Cond.code yX0_readText cX0_readText 6 (some .int), Cond.fieldLink RX0 28 "SignRail" "signShapes" "[I", Cond.fieldLink RX0 25 "SignRail" "signDistances" "[I", Cond.methodLink RX0 181 yX0_readGlyph, Cond.instanceMethod yX0_readGlyph, Cond.selects RX0 yX0_readGlyph yX0_readGlyph, Cond.code yX0_readGlyph cX0_readGlyph 6 (some .int), Cond.fieldLink RX0 9 "SignRail" "shapes" "[I", Cond.methodLink RX0 184 yX0_nearestGlyph, Cond.instanceMethod yX0_nearestGlyph]
def wsX0_placeBehind_r3 : List Cond := [Cond.selects RX0 yX0_nearestGlyph yX0_nearestGlyph, Cond.code yX0_nearestGlyph cX0_nearestGlyph 5 (some .int), Cond.methodLink RX0 63 yX0_differing, Cond.static yX0_differing, Cond.code yX0_differing cX0_differing 2 (some .int), Cond.methodLink RX0 167 yJ6_bitCount_0f7a4, Cond.static yJ6_bitCount_0f7a4, Cond.initialized RJ6, Cond.code yJ6_bitCount_0f7a4 cJ6_bitCount_0f7a4 1 (some .int), Cond.constant RJ6 265 (1431655765), Cond.constant RJ6 266 (858993459), Cond.constant RJ6 267 (252645135)]
def wsX0_placeBehind : List Cond := .code yX0_placeBehind cX0_placeBehind 5 (some .int) :: ((wsX0_placeBehind_r1 ++ (wsX0_placeBehind_r2 ++ wsX0_placeBehind_r3)) ++ wsX00 ++ (vx_atS RX0 75 "java/lang/IllegalArgumentException" ["java/lang/RuntimeException", "java/lang/Exception"]).filter goodWord ++ (vx_atS RX0 139 "java/lang/IndexOutOfBoundsException" ["java/lang/RuntimeException", "java/lang/Exception"]).filter goodWord)
def wsX1_init : List Cond := .code yX1_init cX1_init 2 none :: ([.methodLink RX1 1 objectInit, .instanceMethod objectInit, .code objectInit ⟨#[0xb1]⟩ 1 none, .arrayClass .int, .fieldLink RX1 7 "SignRailModel" "shapes" "[I", .fieldLink RX1 13 "SignRailModel" "spaces" "[I", .fieldLink RX1 16 "SignRailModel" "leads" "[I", .fieldLink RX1 19 "SignRailModel" "names" "[I", .fieldLink RX1 22 "SignRailModel" "nameMany" "[I", .fieldLink RX1 25 "SignRailModel" "texts" "[I", .fieldLink RX1 28 "SignRailModel" "many" "[I", .fieldLink RX1 31 "SignRailModel" "distances" "[I", .fieldLink RX1 34 "SignRailModel" "cuts" "[I", .arrayClass .boolean, .fieldLink RX1 37 "SignRailModel" "isTaken" "[Z"] ++ wsX10)
def wsX1_thrown : List Cond := .code yX1_thrown cX1_thrown 1 (some .int) :: ([.fieldLink RX1 41 "SignRailModel" "thrown" "I"] ++ wsX10)
def wsX1_fails : List Cond := .code yX1_fails cX1_fails 2 (some .int) :: ([.fieldLink RX1 41 "SignRailModel" "thrown" "I"] ++ wsX10)
def wsX1_in : List Cond := .code yX1_in cX1_in 3 (some .boolean) :: ([])
def wsX1_isGlyph : List Cond := .code yX1_isGlyph cX1_isGlyph 1 (some .boolean) :: ([.methodLink RX1 45 yX1_in, .static yX1_in, .initialized RX1, .code yX1_in cX1_in 3 (some .boolean)])
def wsX1_isPlace : List Cond := .code yX1_isPlace cX1_isPlace 1 (some .boolean) :: ([.methodLink RX1 45 yX1_in, .static yX1_in, .initialized RX1, .code yX1_in cX1_in 3 (some .boolean)])
def wsX1_isExit : List Cond := .code yX1_isExit cX1_isExit 2 (some .boolean) :: ([.methodLink RX1 49 yX1_isPlace, .static yX1_isPlace, .initialized RX1, .code yX1_isPlace cX1_isPlace 1 (some .boolean), .methodLink RX1 45 yX1_in, .static yX1_in, .code yX1_in cX1_in 3 (some .boolean)])
def wsX1_power : List Cond := .code yX1_power cX1_power 3 (some .int) :: ([])
def wsX1_isText : List Cond := .code yX1_isText cX1_isText 2 (some .boolean) :: ([.methodLink RX1 45 yX1_in, .static yX1_in, .initialized RX1, .code yX1_in cX1_in 3 (some .boolean), .methodLink RX1 53 yX1_power, .static yX1_power, .code yX1_power cX1_power 3 (some .int)])
def wsX1_glyph : List Cond := .code yX1_glyph cX1_glyph 3 (some .int) :: ([.methodLink RX1 53 yX1_power, .static yX1_power, .initialized RX1, .code yX1_power cX1_power 3 (some .int)])
def wsX1_bits : List Cond := .code yX1_bits cX1_bits 3 (some .int) :: ([])
def wsX1_stroke : List Cond := .code yX1_stroke cX1_stroke 19 (some .int) :: ([.fieldLink RX1 41 "SignRailModel" "thrown" "I", .fieldLink RX1 7 "SignRailModel" "shapes" "[I", .methodLink RX1 45 yX1_in, .static yX1_in, .initialized RX1, .code yX1_in cX1_in 3 (some .boolean), .methodLink RX1 57 yX1_isGlyph, .static yX1_isGlyph, .code yX1_isGlyph cX1_isGlyph 1 (some .boolean), .methodLink RX1 60 yX1_fails, .instanceMethod yX1_fails, .selects RX1 yX1_fails yX1_fails, .code yX1_fails cX1_fails 2 (some .int), .methodLink RX1 63 yX1_bits, .static yX1_bits, .code yX1_bits cX1_bits 3 (some .int)] ++ wsX10)
def wsX1_difference : List Cond := .code yX1_difference cX1_difference 3 (some .int) :: ([.fieldLink RX1 41 "SignRailModel" "thrown" "I", .fieldLink RX1 7 "SignRailModel" "shapes" "[I", .methodLink RX1 57 yX1_isGlyph, .static yX1_isGlyph, .initialized RX1, .code yX1_isGlyph cX1_isGlyph 1 (some .boolean), .methodLink RX1 45 yX1_in, .static yX1_in, .code yX1_in cX1_in 3 (some .boolean), .methodLink RX1 63 yX1_bits, .static yX1_bits, .code yX1_bits cX1_bits 3 (some .int), .methodLink RX1 60 yX1_fails, .instanceMethod yX1_fails, .selects RX1 yX1_fails yX1_fails, .code yX1_fails cX1_fails 2 (some .int)] ++ wsX10)
def wsX1_widthOf : List Cond := .code yX1_widthOf cX1_widthOf 7 (some .int) :: ([.fieldLink RX1 7 "SignRailModel" "shapes" "[I"] ++ wsX10)
def wsX1_width : List Cond := .code yX1_width cX1_width 2 (some .int) :: ([.fieldLink RX1 41 "SignRailModel" "thrown" "I", .methodLink RX1 57 yX1_isGlyph, .static yX1_isGlyph, .initialized RX1, .code yX1_isGlyph cX1_isGlyph 1 (some .boolean), .methodLink RX1 45 yX1_in, .static yX1_in, .code yX1_in cX1_in 3 (some .boolean), .methodLink RX1 66 yX1_widthOf, .instanceMethod yX1_widthOf, .selects RX1 yX1_widthOf yX1_widthOf, .code yX1_widthOf cX1_widthOf 7 (some .int), .fieldLink RX1 7 "SignRailModel" "shapes" "[I", .methodLink RX1 60 yX1_fails, .instanceMethod yX1_fails, .selects RX1 yX1_fails yX1_fails, .code yX1_fails cX1_fails 2 (some .int)] ++ wsX10)
def wsX1_space : List Cond := .code yX1_space cX1_space 5 (some .int) :: ([.fieldLink RX1 41 "SignRailModel" "thrown" "I", .fieldLink RX1 13 "SignRailModel" "spaces" "[I", .methodLink RX1 57 yX1_isGlyph, .static yX1_isGlyph, .initialized RX1, .code yX1_isGlyph cX1_isGlyph 1 (some .boolean), .methodLink RX1 45 yX1_in, .static yX1_in, .code yX1_in cX1_in 3 (some .boolean)] ++ wsX10)
def wsX1_lead : List Cond := .code yX1_lead cX1_lead 5 (some .int) :: ([.fieldLink RX1 41 "SignRailModel" "thrown" "I", .fieldLink RX1 16 "SignRailModel" "leads" "[I", .methodLink RX1 69 yX1_isExit, .static yX1_isExit, .initialized RX1, .code yX1_isExit cX1_isExit 2 (some .boolean), .methodLink RX1 49 yX1_isPlace, .static yX1_isPlace, .code yX1_isPlace cX1_isPlace 1 (some .boolean), .methodLink RX1 45 yX1_in, .static yX1_in, .code yX1_in cX1_in 3 (some .boolean)] ++ wsX10)
def wsX1_name : List Cond := .code yX1_name cX1_name 4 none :: ([.fieldLink RX1 41 "SignRailModel" "thrown" "I", .fieldLink RX1 19 "SignRailModel" "names" "[I", .fieldLink RX1 22 "SignRailModel" "nameMany" "[I", .methodLink RX1 49 yX1_isPlace, .static yX1_isPlace, .initialized RX1, .code yX1_isPlace cX1_isPlace 1 (some .boolean), .methodLink RX1 45 yX1_in, .static yX1_in, .code yX1_in cX1_in 3 (some .boolean), .methodLink RX1 73 yX1_isText, .static yX1_isText, .code yX1_isText cX1_isText 2 (some .boolean), .methodLink RX1 53 yX1_power, .static yX1_power, .code yX1_power cX1_power 3 (some .int)] ++ wsX10)
def wsX1_widthOfText : List Cond := .code yX1_widthOfText cX1_widthOfText 5 (some .int) :: ([.fieldLink RX1 13 "SignRailModel" "spaces" "[I", .methodLink RX1 76 yX1_glyph, .static yX1_glyph, .initialized RX1, .code yX1_glyph cX1_glyph 3 (some .int), .methodLink RX1 53 yX1_power, .static yX1_power, .code yX1_power cX1_power 3 (some .int), .methodLink RX1 66 yX1_widthOf, .instanceMethod yX1_widthOf, .selects RX1 yX1_widthOf yX1_widthOf, .code yX1_widthOf cX1_widthOf 7 (some .int), .fieldLink RX1 7 "SignRailModel" "shapes" "[I"] ++ wsX10)
def wsX1_textWidth_r1 : List Cond := [Cond.fieldLink RX1 41 "SignRailModel" "thrown" "I", Cond.methodLink RX1 73 yX1_isText, Cond.static yX1_isText, Cond.initialized RX1, Cond.code yX1_isText cX1_isText 2 (some .boolean), Cond.methodLink RX1 45 yX1_in, Cond.static yX1_in, Cond.code yX1_in cX1_in 3 (some .boolean), Cond.methodLink RX1 53 yX1_power, Cond.static yX1_power, Cond.code yX1_power cX1_power 3 (some .int), Cond.methodLink RX1 80 yX1_widthOfText, Cond.instanceMethod yX1_widthOfText, Cond.selects RX1 yX1_widthOfText yX1_widthOfText, Cond.code yX1_widthOfText cX1_widthOfText 5 (some .int), Cond.fieldLink RX1 13 "SignRailModel" "spaces" "[I", Cond.methodLink RX1 76 yX1_glyph, Cond.static yX1_glyph, Cond.code yX1_glyph cX1_glyph 3 (some .int), Cond.methodLink RX1 66 yX1_widthOf, Cond.instanceMethod yX1_widthOf, Cond.selects RX1 yX1_widthOf yX1_widthOf, Cond.code yX1_widthOf cX1_widthOf 7 (some .int), Cond.fieldLink RX1 7 "SignRailModel" "shapes" "[I"]
def wsX1_textWidth_r2 : List Cond := [Cond.methodLink RX1 60 yX1_fails, Cond.instanceMethod yX1_fails, Cond.selects RX1 yX1_fails yX1_fails, Cond.code yX1_fails cX1_fails 2 (some .int)]
def wsX1_textWidth : List Cond := .code yX1_textWidth cX1_textWidth 3 (some .int) :: ((wsX1_textWidth_r1 ++ wsX1_textWidth_r2) ++ wsX10)
def wsX1_plate : List Cond := .code yX1_plate cX1_plate 4 (some .int) :: ([.methodLink RX1 80 yX1_widthOfText, .instanceMethod yX1_widthOfText, .selects RX1 yX1_widthOfText yX1_widthOfText, .initialized RX1, .code yX1_widthOfText cX1_widthOfText 5 (some .int), .fieldLink RX1 13 "SignRailModel" "spaces" "[I", .methodLink RX1 76 yX1_glyph, .static yX1_glyph, .code yX1_glyph cX1_glyph 3 (some .int), .methodLink RX1 53 yX1_power, .static yX1_power, .code yX1_power cX1_power 3 (some .int), .methodLink RX1 66 yX1_widthOf, .instanceMethod yX1_widthOf, .selects RX1 yX1_widthOf yX1_widthOf, .code yX1_widthOf cX1_widthOf 7 (some .int), .fieldLink RX1 7 "SignRailModel" "shapes" "[I"] ++ wsX10)
def wsX1_cuts_r1 : List Cond := [Cond.fieldLink RX1 28 "SignRailModel" "many" "[I", Cond.fieldLink RX1 34 "SignRailModel" "cuts" "[I", Cond.fieldLink RX1 7 "SignRailModel" "shapes" "[I", Cond.fieldLink RX1 25 "SignRailModel" "texts" "[I", Cond.fieldLink RX1 84 "SignRailModel" "cost" "J", Cond.methodLink RX1 76 yX1_glyph, Cond.static yX1_glyph, Cond.initialized RX1, Cond.code yX1_glyph cX1_glyph 3 (some .int), Cond.methodLink RX1 53 yX1_power, Cond.static yX1_power, Cond.code yX1_power cX1_power 3 (some .int), Cond.methodLink RX1 88 yX1_plate, Cond.instanceMethod yX1_plate, Cond.selects RX1 yX1_plate yX1_plate, Cond.code yX1_plate cX1_plate 4 (some .int), Cond.methodLink RX1 80 yX1_widthOfText, Cond.instanceMethod yX1_widthOfText, Cond.selects RX1 yX1_widthOfText yX1_widthOfText, Cond.code yX1_widthOfText cX1_widthOfText 5 (some .int), Cond.fieldLink RX1 13 "SignRailModel" "spaces" "[I", Cond.methodLink RX1 66 yX1_widthOf, Cond.instanceMethod yX1_widthOf, Cond.selects RX1 yX1_widthOf yX1_widthOf]
def wsX1_cuts_r2 : List Cond := [Cond.code yX1_widthOf cX1_widthOf 7 (some .int)]
def wsX1_cuts : List Cond := .code yX1_cuts cX1_cuts 3 none :: ((wsX1_cuts_r1 ++ wsX1_cuts_r2) ++ wsX10)
def wsX1_cut_r1 : List Cond := [Cond.fieldLink RX1 41 "SignRailModel" "thrown" "I", Cond.fieldLink RX1 25 "SignRailModel" "texts" "[I", Cond.fieldLink RX1 28 "SignRailModel" "many" "[I", Cond.fieldLink RX1 31 "SignRailModel" "distances" "[I", Cond.methodLink RX1 69 yX1_isExit, Cond.static yX1_isExit, Cond.initialized RX1, Cond.code yX1_isExit cX1_isExit 2 (some .boolean), Cond.methodLink RX1 49 yX1_isPlace, Cond.static yX1_isPlace, Cond.code yX1_isPlace cX1_isPlace 1 (some .boolean), Cond.methodLink RX1 45 yX1_in, Cond.static yX1_in, Cond.code yX1_in cX1_in 3 (some .boolean), Cond.methodLink RX1 60 yX1_fails, Cond.instanceMethod yX1_fails, Cond.selects RX1 yX1_fails yX1_fails, Cond.code yX1_fails cX1_fails 2 (some .int), Cond.methodLink RX1 73 yX1_isText, Cond.static yX1_isText, Cond.code yX1_isText cX1_isText 2 (some .boolean), Cond.methodLink RX1 53 yX1_power, Cond.static yX1_power, Cond.code yX1_power cX1_power 3 (some .int)]
def wsX1_cut_r2 : List Cond := [Cond.methodLink RX1 88 yX1_plate, Cond.instanceMethod yX1_plate, Cond.selects RX1 yX1_plate yX1_plate, Cond.code yX1_plate cX1_plate 4 (some .int), Cond.methodLink RX1 80 yX1_widthOfText, Cond.instanceMethod yX1_widthOfText, Cond.selects RX1 yX1_widthOfText yX1_widthOfText, Cond.code yX1_widthOfText cX1_widthOfText 5 (some .int), Cond.fieldLink RX1 13 "SignRailModel" "spaces" "[I", Cond.methodLink RX1 76 yX1_glyph, Cond.static yX1_glyph, Cond.code yX1_glyph cX1_glyph 3 (some .int), Cond.methodLink RX1 66 yX1_widthOf, Cond.instanceMethod yX1_widthOf, Cond.selects RX1 yX1_widthOf yX1_widthOf, Cond.code yX1_widthOf cX1_widthOf 7 (some .int), Cond.fieldLink RX1 7 "SignRailModel" "shapes" "[I", Cond.methodLink RX1 91 yX1_cuts, Cond.instanceMethod yX1_cuts, Cond.selects RX1 yX1_cuts yX1_cuts, Cond.code yX1_cuts cX1_cuts 3 none, Cond.fieldLink RX1 34 "SignRailModel" "cuts" "[I", Cond.fieldLink RX1 84 "SignRailModel" "cost" "J"]
def wsX1_cut : List Cond := .code yX1_cut cX1_cut 8 (some .int) :: ((wsX1_cut_r1 ++ wsX1_cut_r2) ++ wsX10)
def wsX1_remove : List Cond := .code yX1_remove cX1_remove 4 (some .boolean) :: ([.fieldLink RX1 41 "SignRailModel" "thrown" "I", .fieldLink RX1 28 "SignRailModel" "many" "[I", .methodLink RX1 69 yX1_isExit, .static yX1_isExit, .initialized RX1, .code yX1_isExit cX1_isExit 2 (some .boolean), .methodLink RX1 49 yX1_isPlace, .static yX1_isPlace, .code yX1_isPlace cX1_isPlace 1 (some .boolean), .methodLink RX1 45 yX1_in, .static yX1_in, .code yX1_in cX1_in 3 (some .boolean)] ++ wsX10)
def wsX1_old : List Cond := .code yX1_old cX1_old 4 (some .boolean) :: ([.fieldLink RX1 28 "SignRailModel" "many" "[I", .fieldLink RX1 34 "SignRailModel" "cuts" "[I", .fieldLink RX1 7 "SignRailModel" "shapes" "[I", .fieldLink RX1 25 "SignRailModel" "texts" "[I", .methodLink RX1 76 yX1_glyph, .static yX1_glyph, .initialized RX1, .code yX1_glyph cX1_glyph 3 (some .int), .methodLink RX1 53 yX1_power, .static yX1_power, .code yX1_power cX1_power 3 (some .int)] ++ wsX10)
def wsX1_isOld_r1 : List Cond := [Cond.fieldLink RX1 41 "SignRailModel" "thrown" "I", Cond.methodLink RX1 69 yX1_isExit, Cond.static yX1_isExit, Cond.initialized RX1, Cond.code yX1_isExit cX1_isExit 2 (some .boolean), Cond.methodLink RX1 49 yX1_isPlace, Cond.static yX1_isPlace, Cond.code yX1_isPlace cX1_isPlace 1 (some .boolean), Cond.methodLink RX1 45 yX1_in, Cond.static yX1_in, Cond.code yX1_in cX1_in 3 (some .boolean), Cond.methodLink RX1 94 yX1_old, Cond.instanceMethod yX1_old, Cond.selects RX1 yX1_old yX1_old, Cond.code yX1_old cX1_old 4 (some .boolean), Cond.fieldLink RX1 28 "SignRailModel" "many" "[I", Cond.fieldLink RX1 34 "SignRailModel" "cuts" "[I", Cond.fieldLink RX1 7 "SignRailModel" "shapes" "[I", Cond.fieldLink RX1 25 "SignRailModel" "texts" "[I", Cond.methodLink RX1 76 yX1_glyph, Cond.static yX1_glyph, Cond.code yX1_glyph cX1_glyph 3 (some .int), Cond.methodLink RX1 53 yX1_power, Cond.static yX1_power]
def wsX1_isOld_r2 : List Cond := [Cond.code yX1_power cX1_power 3 (some .int)]
def wsX1_isOld : List Cond := .code yX1_isOld cX1_isOld 3 (some .boolean) :: ((wsX1_isOld_r1 ++ wsX1_isOld_r2) ++ wsX10)
def wsX1_remake_r1 : List Cond := [Cond.fieldLink RX1 41 "SignRailModel" "thrown" "I", Cond.fieldLink RX1 25 "SignRailModel" "texts" "[I", Cond.fieldLink RX1 28 "SignRailModel" "many" "[I", Cond.methodLink RX1 94 yX1_old, Cond.instanceMethod yX1_old, Cond.selects RX1 yX1_old yX1_old, Cond.initialized RX1, Cond.code yX1_old cX1_old 4 (some .boolean), Cond.fieldLink RX1 34 "SignRailModel" "cuts" "[I", Cond.fieldLink RX1 7 "SignRailModel" "shapes" "[I", Cond.methodLink RX1 76 yX1_glyph, Cond.static yX1_glyph, Cond.code yX1_glyph cX1_glyph 3 (some .int), Cond.methodLink RX1 53 yX1_power, Cond.static yX1_power, Cond.code yX1_power cX1_power 3 (some .int), Cond.methodLink RX1 88 yX1_plate, Cond.instanceMethod yX1_plate, Cond.selects RX1 yX1_plate yX1_plate, Cond.code yX1_plate cX1_plate 4 (some .int), Cond.methodLink RX1 80 yX1_widthOfText, Cond.instanceMethod yX1_widthOfText, Cond.selects RX1 yX1_widthOfText yX1_widthOfText, Cond.code yX1_widthOfText cX1_widthOfText 5 (some .int)]
def wsX1_remake_r2 : List Cond := [Cond.fieldLink RX1 13 "SignRailModel" "spaces" "[I", Cond.methodLink RX1 66 yX1_widthOf, Cond.instanceMethod yX1_widthOf, Cond.selects RX1 yX1_widthOf yX1_widthOf, Cond.code yX1_widthOf cX1_widthOf 7 (some .int), Cond.methodLink RX1 91 yX1_cuts, Cond.instanceMethod yX1_cuts, Cond.selects RX1 yX1_cuts yX1_cuts, Cond.code yX1_cuts cX1_cuts 3 none, Cond.fieldLink RX1 84 "SignRailModel" "cost" "J"]
def wsX1_remake : List Cond := .code yX1_remake cX1_remake 4 (some .int) :: ((wsX1_remake_r1 ++ wsX1_remake_r2) ++ wsX10)
def wsX1_nearest : List Cond := .code yX1_nearest cX1_nearest 6 (some .int) :: ([.fieldLink RX1 7 "SignRailModel" "shapes" "[I", .methodLink RX1 63 yX1_bits, .static yX1_bits, .initialized RX1, .code yX1_bits cX1_bits 3 (some .int)] ++ wsX10)
def wsX1_reads : List Cond := .code yX1_reads cX1_reads 8 (some .int) :: ([.fieldLink RX1 28 "SignRailModel" "many" "[I", .fieldLink RX1 34 "SignRailModel" "cuts" "[I", .fieldLink RX1 7 "SignRailModel" "shapes" "[I", .fieldLink RX1 31 "SignRailModel" "distances" "[I", .methodLink RX1 97 yX1_nearest, .instanceMethod yX1_nearest, .selects RX1 yX1_nearest yX1_nearest, .initialized RX1, .code yX1_nearest cX1_nearest 6 (some .int), .methodLink RX1 63 yX1_bits, .static yX1_bits, .code yX1_bits cX1_bits 3 (some .int)] ++ wsX10)
def wsX1_read_r1 : List Cond := [Cond.fieldLink RX1 41 "SignRailModel" "thrown" "I", Cond.fieldLink RX1 28 "SignRailModel" "many" "[I", Cond.methodLink RX1 69 yX1_isExit, Cond.static yX1_isExit, Cond.initialized RX1, Cond.code yX1_isExit cX1_isExit 2 (some .boolean), Cond.methodLink RX1 49 yX1_isPlace, Cond.static yX1_isPlace, Cond.code yX1_isPlace cX1_isPlace 1 (some .boolean), Cond.methodLink RX1 45 yX1_in, Cond.static yX1_in, Cond.code yX1_in cX1_in 3 (some .boolean), Cond.methodLink RX1 100 yX1_reads, Cond.instanceMethod yX1_reads, Cond.selects RX1 yX1_reads yX1_reads, Cond.code yX1_reads cX1_reads 8 (some .int), Cond.fieldLink RX1 34 "SignRailModel" "cuts" "[I", Cond.fieldLink RX1 7 "SignRailModel" "shapes" "[I", Cond.fieldLink RX1 31 "SignRailModel" "distances" "[I", Cond.methodLink RX1 97 yX1_nearest, Cond.instanceMethod yX1_nearest, Cond.selects RX1 yX1_nearest yX1_nearest, Cond.code yX1_nearest cX1_nearest 6 (some .int), Cond.methodLink RX1 63 yX1_bits]
def wsX1_read_r2 : List Cond := [Cond.static yX1_bits, Cond.code yX1_bits cX1_bits 3 (some .int)]
def wsX1_read : List Cond := .code yX1_read cX1_read 4 (some .int) :: ((wsX1_read_r1 ++ wsX1_read_r2) ++ wsX10)
def wsX1_cost : List Cond := .code yX1_cost cX1_cost 1 (some .long) :: ([.fieldLink RX1 41 "SignRailModel" "thrown" "I", .fieldLink RX1 84 "SignRailModel" "cost" "J"] ++ wsX10)
def wsX1_takes : List Cond := .code yX1_takes cX1_takes 8 (some .int) :: ([.fieldLink RX1 16 "SignRailModel" "leads" "[I", .fieldLink RX1 37 "SignRailModel" "isTaken" "[Z", .fieldLink RX1 28 "SignRailModel" "many" "[I", .methodLink RX1 100 yX1_reads, .instanceMethod yX1_reads, .selects RX1 yX1_reads yX1_reads, .initialized RX1, .code yX1_reads cX1_reads 8 (some .int), .fieldLink RX1 34 "SignRailModel" "cuts" "[I", .fieldLink RX1 7 "SignRailModel" "shapes" "[I", .fieldLink RX1 31 "SignRailModel" "distances" "[I", .methodLink RX1 97 yX1_nearest, .instanceMethod yX1_nearest, .selects RX1 yX1_nearest yX1_nearest, .code yX1_nearest cX1_nearest 6 (some .int), .methodLink RX1 63 yX1_bits, .static yX1_bits, .code yX1_bits cX1_bits 3 (some .int)] ++ wsX10)
def wsX1_follows_r1 : List Cond := [Cond.fieldLink RX1 37 "SignRailModel" "isTaken" "[Z", Cond.fieldLink RX1 103 "SignRailModel" "steps" "I", Cond.fieldLink RX1 106 "SignRailModel" "at" "I", Cond.fieldLink RX1 22 "SignRailModel" "nameMany" "[I", Cond.fieldLink RX1 19 "SignRailModel" "names" "[I", Cond.fieldLink RX1 109 "SignRailModel" "hasArrived" "Z", Cond.fieldLink RX1 16 "SignRailModel" "leads" "[I", Cond.methodLink RX1 113 yX1_takes, Cond.instanceMethod yX1_takes, Cond.selects RX1 yX1_takes yX1_takes, Cond.initialized RX1, Cond.code yX1_takes cX1_takes 8 (some .int), Cond.fieldLink RX1 28 "SignRailModel" "many" "[I", Cond.methodLink RX1 100 yX1_reads, Cond.instanceMethod yX1_reads, Cond.selects RX1 yX1_reads yX1_reads, Cond.code yX1_reads cX1_reads 8 (some .int), Cond.fieldLink RX1 34 "SignRailModel" "cuts" "[I", Cond.fieldLink RX1 7 "SignRailModel" "shapes" "[I", Cond.fieldLink RX1 31 "SignRailModel" "distances" "[I", Cond.methodLink RX1 97 yX1_nearest, Cond.instanceMethod yX1_nearest, Cond.selects RX1 yX1_nearest yX1_nearest, Cond.code yX1_nearest cX1_nearest 6 (some .int)]
def wsX1_follows_r2 : List Cond := [Cond.methodLink RX1 63 yX1_bits, Cond.static yX1_bits, Cond.code yX1_bits cX1_bits 3 (some .int)]
def wsX1_follows : List Cond := .code yX1_follows cX1_follows 7 none :: ((wsX1_follows_r1 ++ wsX1_follows_r2) ++ wsX10)
def wsX1_walk_r1 : List Cond := [Cond.fieldLink RX1 41 "SignRailModel" "thrown" "I", Cond.fieldLink RX1 109 "SignRailModel" "hasArrived" "Z", Cond.fieldLink RX1 103 "SignRailModel" "steps" "I", Cond.methodLink RX1 49 yX1_isPlace, Cond.static yX1_isPlace, Cond.initialized RX1, Cond.code yX1_isPlace cX1_isPlace 1 (some .boolean), Cond.methodLink RX1 45 yX1_in, Cond.static yX1_in, Cond.code yX1_in cX1_in 3 (some .boolean), Cond.methodLink RX1 73 yX1_isText, Cond.static yX1_isText, Cond.code yX1_isText cX1_isText 2 (some .boolean), Cond.methodLink RX1 53 yX1_power, Cond.static yX1_power, Cond.code yX1_power cX1_power 3 (some .int), Cond.methodLink RX1 116 yX1_follows, Cond.instanceMethod yX1_follows, Cond.selects RX1 yX1_follows yX1_follows, Cond.code yX1_follows cX1_follows 7 none, Cond.fieldLink RX1 37 "SignRailModel" "isTaken" "[Z", Cond.fieldLink RX1 106 "SignRailModel" "at" "I", Cond.fieldLink RX1 22 "SignRailModel" "nameMany" "[I", Cond.fieldLink RX1 19 "SignRailModel" "names" "[I"]
def wsX1_walk_r2 : List Cond := [Cond.fieldLink RX1 16 "SignRailModel" "leads" "[I", Cond.methodLink RX1 113 yX1_takes, Cond.instanceMethod yX1_takes, Cond.selects RX1 yX1_takes yX1_takes, Cond.code yX1_takes cX1_takes 8 (some .int), Cond.fieldLink RX1 28 "SignRailModel" "many" "[I", Cond.methodLink RX1 100 yX1_reads, Cond.instanceMethod yX1_reads, Cond.selects RX1 yX1_reads yX1_reads, Cond.code yX1_reads cX1_reads 8 (some .int), Cond.fieldLink RX1 34 "SignRailModel" "cuts" "[I", Cond.fieldLink RX1 7 "SignRailModel" "shapes" "[I", Cond.fieldLink RX1 31 "SignRailModel" "distances" "[I", Cond.methodLink RX1 97 yX1_nearest, Cond.instanceMethod yX1_nearest, Cond.selects RX1 yX1_nearest yX1_nearest, Cond.code yX1_nearest cX1_nearest 6 (some .int), Cond.methodLink RX1 63 yX1_bits, Cond.static yX1_bits, Cond.code yX1_bits cX1_bits 3 (some .int)]
def wsX1_walk : List Cond := .code yX1_walk cX1_walk 4 (some .int) :: ((wsX1_walk_r1 ++ wsX1_walk_r2) ++ wsX10)
def wsX1_walkBySteps_r1 : List Cond := [Cond.methodLink RX1 120 yX1_walk, Cond.instanceMethod yX1_walk, Cond.selects RX1 yX1_walk yX1_walk, Cond.initialized RX1, Cond.code yX1_walk cX1_walk 4 (some .int), Cond.fieldLink RX1 41 "SignRailModel" "thrown" "I", Cond.fieldLink RX1 109 "SignRailModel" "hasArrived" "Z", Cond.fieldLink RX1 103 "SignRailModel" "steps" "I", Cond.methodLink RX1 49 yX1_isPlace, Cond.static yX1_isPlace, Cond.code yX1_isPlace cX1_isPlace 1 (some .boolean), Cond.methodLink RX1 45 yX1_in, Cond.static yX1_in, Cond.code yX1_in cX1_in 3 (some .boolean), Cond.methodLink RX1 73 yX1_isText, Cond.static yX1_isText, Cond.code yX1_isText cX1_isText 2 (some .boolean), Cond.methodLink RX1 53 yX1_power, Cond.static yX1_power, Cond.code yX1_power cX1_power 3 (some .int), Cond.methodLink RX1 116 yX1_follows, Cond.instanceMethod yX1_follows, Cond.selects RX1 yX1_follows yX1_follows, Cond.code yX1_follows cX1_follows 7 none]
def wsX1_walkBySteps_r2 : List Cond := [Cond.fieldLink RX1 37 "SignRailModel" "isTaken" "[Z", Cond.fieldLink RX1 106 "SignRailModel" "at" "I", Cond.fieldLink RX1 22 "SignRailModel" "nameMany" "[I", Cond.fieldLink RX1 19 "SignRailModel" "names" "[I", Cond.fieldLink RX1 16 "SignRailModel" "leads" "[I", Cond.methodLink RX1 113 yX1_takes, Cond.instanceMethod yX1_takes, Cond.selects RX1 yX1_takes yX1_takes, Cond.code yX1_takes cX1_takes 8 (some .int), Cond.fieldLink RX1 28 "SignRailModel" "many" "[I", Cond.methodLink RX1 100 yX1_reads, Cond.instanceMethod yX1_reads, Cond.selects RX1 yX1_reads yX1_reads, Cond.code yX1_reads cX1_reads 8 (some .int), Cond.fieldLink RX1 34 "SignRailModel" "cuts" "[I", Cond.fieldLink RX1 7 "SignRailModel" "shapes" "[I", Cond.fieldLink RX1 31 "SignRailModel" "distances" "[I", Cond.methodLink RX1 97 yX1_nearest, Cond.instanceMethod yX1_nearest, Cond.selects RX1 yX1_nearest yX1_nearest, Cond.code yX1_nearest cX1_nearest 6 (some .int), Cond.methodLink RX1 63 yX1_bits, Cond.static yX1_bits, Cond.code yX1_bits cX1_bits 3 (some .int)]
def wsX1_walkBySteps : List Cond := .code yX1_walkBySteps cX1_walkBySteps 4 (some .int) :: ((wsX1_walkBySteps_r1 ++ wsX1_walkBySteps_r2) ++ wsX10)
def wsX1_placeBehind_r1 : List Cond := [Cond.fieldLink RX1 41 "SignRailModel" "thrown" "I", Cond.fieldLink RX1 106 "SignRailModel" "at" "I", Cond.methodLink RX1 49 yX1_isPlace, Cond.static yX1_isPlace, Cond.initialized RX1, Cond.code yX1_isPlace cX1_isPlace 1 (some .boolean), Cond.methodLink RX1 45 yX1_in, Cond.static yX1_in, Cond.code yX1_in cX1_in 3 (some .boolean), Cond.methodLink RX1 73 yX1_isText, Cond.static yX1_isText, Cond.code yX1_isText cX1_isText 2 (some .boolean), Cond.methodLink RX1 53 yX1_power, Cond.static yX1_power, Cond.code yX1_power cX1_power 3 (some .int), Cond.methodLink RX1 116 yX1_follows, Cond.instanceMethod yX1_follows, Cond.selects RX1 yX1_follows yX1_follows, Cond.code yX1_follows cX1_follows 7 none, Cond.fieldLink RX1 37 "SignRailModel" "isTaken" "[Z", Cond.fieldLink RX1 103 "SignRailModel" "steps" "I", Cond.fieldLink RX1 22 "SignRailModel" "nameMany" "[I", Cond.fieldLink RX1 19 "SignRailModel" "names" "[I", Cond.fieldLink RX1 109 "SignRailModel" "hasArrived" "Z"]
def wsX1_placeBehind_r2 : List Cond := [Cond.fieldLink RX1 16 "SignRailModel" "leads" "[I", Cond.methodLink RX1 113 yX1_takes, Cond.instanceMethod yX1_takes, Cond.selects RX1 yX1_takes yX1_takes, Cond.code yX1_takes cX1_takes 8 (some .int), Cond.fieldLink RX1 28 "SignRailModel" "many" "[I", Cond.methodLink RX1 100 yX1_reads, Cond.instanceMethod yX1_reads, Cond.selects RX1 yX1_reads yX1_reads, Cond.code yX1_reads cX1_reads 8 (some .int), Cond.fieldLink RX1 34 "SignRailModel" "cuts" "[I", Cond.fieldLink RX1 7 "SignRailModel" "shapes" "[I", Cond.fieldLink RX1 31 "SignRailModel" "distances" "[I", Cond.methodLink RX1 97 yX1_nearest, Cond.instanceMethod yX1_nearest, Cond.selects RX1 yX1_nearest yX1_nearest, Cond.code yX1_nearest cX1_nearest 6 (some .int), Cond.methodLink RX1 63 yX1_bits, Cond.static yX1_bits, Cond.code yX1_bits cX1_bits 3 (some .int)]
def wsX1_placeBehind : List Cond := .code yX1_placeBehind cX1_placeBehind 5 (some .int) :: ((wsX1_placeBehind_r1 ++ wsX1_placeBehind_r2) ++ wsX10)
def wsJ9_abs_0f7a4 : List Cond := .code yJ9_abs_0f7a4 cJ9_abs_0f7a4 1 (some .int) :: ([])
def wsJ9_max_7cf53 : List Cond := .code yJ9_max_7cf53 cJ9_max_7cf53 2 (some .int) :: ([])
def wsL_stroke_r1 : List Cond := [Cond.classLink RL 13 "java/lang/IndexOutOfBoundsException", Cond.classLink RL 15 "java/lang/IllegalArgumentException", Cond.methodLink RL 7 yX0_stroke, Cond.instanceMethod yX0_stroke, Cond.selects RX0 yX0_stroke yX0_stroke, Cond.initialized RX0, Cond.code yX0_stroke cX0_stroke 10 (some .int), Cond.fieldLink RX0 9 "SignRail" "shapes" "[I", Cond.methodLink RX0 48 yX0_requireGlyph, Cond.static yX0_requireGlyph, Cond.code yX0_requireGlyph cX0_requireGlyph 1 none, Cond.classLink RX0 135 "java/lang/IndexOutOfBoundsException", Cond.initialized "java/lang/IndexOutOfBoundsException", Cond.methodLink RX0 52 yX0_requireLine, Cond.static yX0_requireLine, Cond.code yX0_requireLine cX0_requireLine 6 none, Cond.classLink RX0 71 "java/lang/IllegalArgumentException", Cond.initialized "java/lang/IllegalArgumentException", Cond.methodLink RX0 154 Lib.Math.abs.name, Cond.static Lib.Math.abs.name, Cond.initialized "java/lang/Math", Cond.code Lib.Math.abs.name Lib.Math.abs.code 1 (some .int), Cond.methodLink RX0 148 yX0_isCell, Cond.static yX0_isCell]
def wsL_stroke_r2 : List Cond := [Cond.code yX0_isCell cX0_isCell 2 (some .boolean), Cond.methodLink RX0 56 yX0_lineCells, Cond.static yX0_lineCells, Cond.code yX0_lineCells cX0_lineCells 9 (some .int), Cond.methodLink RX0 161 Lib.Math.max.name, Cond.static Lib.Math.max.name, Cond.code Lib.Math.max.name Lib.Math.max.code 2 (some .int), Cond.methodLink RX0 164 yX0_direction, Cond.static yX0_direction, Cond.code yX0_direction cX0_direction 2 (some .int), Cond.methodLink RX0 60 yX0_forgetWalks, Cond.instanceMethod yX0_forgetWalks, Cond.selects RX0 yX0_forgetWalks yX0_forgetWalks, Cond.code yX0_forgetWalks cX0_forgetWalks 1 none, Cond.fieldLink RX0 35 "SignRail" "keptGoal" "I", Cond.methodLink RX0 63 yX0_differing, Cond.static yX0_differing, Cond.code yX0_differing cX0_differing 2 (some .int), Cond.methodLink RX0 167 yJ6_bitCount_0f7a4, Cond.static yJ6_bitCount_0f7a4, Cond.initialized RJ6, Cond.code yJ6_bitCount_0f7a4 cJ6_bitCount_0f7a4 1 (some .int), Cond.constant RJ6 265 (1431655765), Cond.constant RJ6 266 (858993459)]
def wsL_stroke_r3 : List Cond := [Cond.constant RJ6 267 (252645135)]
def wsL_stroke : List Cond := .codeWith yL_stroke cL_stroke 9 (some .int) [(0, 18, 21, 13), (0, 18, 25, 15)] :: ((wsL_stroke_r1 ++ (wsL_stroke_r2 ++ wsL_stroke_r3)) ++ wsX00 ++ (vx_atS RX0 139 "java/lang/IndexOutOfBoundsException" ["java/lang/RuntimeException", "java/lang/Exception"]).filter goodWord ++ (vx_atS RX0 75 "java/lang/IllegalArgumentException" ["java/lang/RuntimeException", "java/lang/Exception"]).filter goodWord)
def wsL_difference : List Cond := .codeWith yL_difference cL_difference 5 (some .int) [(0, 10, 13, 13)] :: ([.classLink RL 13 "java/lang/IndexOutOfBoundsException", .methodLink RL 17 yX0_difference, .instanceMethod yX0_difference, .selects RX0 yX0_difference yX0_difference, .initialized RX0, .code yX0_difference cX0_difference 3 (some .int), .fieldLink RX0 9 "SignRail" "shapes" "[I", .methodLink RX0 48 yX0_requireGlyph, .static yX0_requireGlyph, .code yX0_requireGlyph cX0_requireGlyph 1 none, .classLink RX0 135 "java/lang/IndexOutOfBoundsException", .initialized "java/lang/IndexOutOfBoundsException", .methodLink RX0 63 yX0_differing, .static yX0_differing, .code yX0_differing cX0_differing 2 (some .int), .methodLink RX0 167 yJ6_bitCount_0f7a4, .static yJ6_bitCount_0f7a4, .initialized RJ6, .code yJ6_bitCount_0f7a4 cJ6_bitCount_0f7a4 1 (some .int), .constant RJ6 265 (1431655765), .constant RJ6 266 (858993459), .constant RJ6 267 (252645135)] ++ wsX00 ++ (vx_atS RX0 139 "java/lang/IndexOutOfBoundsException" ["java/lang/RuntimeException", "java/lang/Exception"]).filter goodWord)
def wsL_width_r1 : List Cond := [Cond.classLink RL 13 "java/lang/IndexOutOfBoundsException", Cond.methodLink RL 21 yX0_width, Cond.instanceMethod yX0_width, Cond.selects RX0 yX0_width yX0_width, Cond.initialized RX0, Cond.code yX0_width cX0_width 2 (some .int), Cond.fieldLink RX0 9 "SignRail" "shapes" "[I", Cond.methodLink RX0 48 yX0_requireGlyph, Cond.static yX0_requireGlyph, Cond.code yX0_requireGlyph cX0_requireGlyph 1 none, Cond.classLink RX0 135 "java/lang/IndexOutOfBoundsException", Cond.initialized "java/lang/IndexOutOfBoundsException", Cond.methodLink RX0 67 yX0_shapeWidth, Cond.static yX0_shapeWidth, Cond.code yX0_shapeWidth cX0_shapeWidth 4 (some .int), Cond.methodLink RX0 172 yX0_hasColumn, Cond.static yX0_hasColumn, Cond.code yX0_hasColumn cX0_hasColumn 2 (some .boolean), Cond.methodLink RX0 56 yX0_lineCells, Cond.static yX0_lineCells, Cond.code yX0_lineCells cX0_lineCells 9 (some .int), Cond.methodLink RX0 154 Lib.Math.abs.name, Cond.static Lib.Math.abs.name, Cond.initialized "java/lang/Math"]
def wsL_width_r2 : List Cond := [Cond.code Lib.Math.abs.name Lib.Math.abs.code 1 (some .int), Cond.methodLink RX0 161 Lib.Math.max.name, Cond.static Lib.Math.max.name, Cond.code Lib.Math.max.name Lib.Math.max.code 2 (some .int), Cond.methodLink RX0 164 yX0_direction, Cond.static yX0_direction, Cond.code yX0_direction cX0_direction 2 (some .int)]
def wsL_width : List Cond := .codeWith yL_width cL_width 4 (some .int) [(0, 9, 12, 13)] :: ((wsL_width_r1 ++ wsL_width_r2) ++ wsX00 ++ (vx_atS RX0 139 "java/lang/IndexOutOfBoundsException" ["java/lang/RuntimeException", "java/lang/Exception"]).filter goodWord)
def wsL_space : List Cond := .codeWith yL_space cL_space 6 (some .int) [(0, 12, 15, 13), (0, 12, 19, 15)] :: ([.classLink RL 13 "java/lang/IndexOutOfBoundsException", .classLink RL 15 "java/lang/IllegalArgumentException", .methodLink RL 25 yX0_space, .instanceMethod yX0_space, .selects RX0 yX0_space yX0_space, .initialized RX0, .code yX0_space cX0_space 6 (some .int), .classLink RX0 71 "java/lang/IllegalArgumentException", .initialized "java/lang/IllegalArgumentException", .fieldLink RX0 13 "SignRail" "spaces" "[I", .methodLink RX0 48 yX0_requireGlyph, .static yX0_requireGlyph, .code yX0_requireGlyph cX0_requireGlyph 1 none, .classLink RX0 135 "java/lang/IndexOutOfBoundsException", .initialized "java/lang/IndexOutOfBoundsException", .methodLink RX0 78 yX0_pairOf, .static yX0_pairOf, .code yX0_pairOf cX0_pairOf 2 (some .int)] ++ wsX00 ++ (vx_atS RX0 75 "java/lang/IllegalArgumentException" ["java/lang/RuntimeException", "java/lang/Exception"]).filter goodWord ++ (vx_atS RX0 139 "java/lang/IndexOutOfBoundsException" ["java/lang/RuntimeException", "java/lang/Exception"]).filter goodWord)
def wsL_lead : List Cond := .codeWith yL_lead cL_lead 6 (some .int) [(0, 12, 15, 13)] :: ([.classLink RL 13 "java/lang/IndexOutOfBoundsException", .methodLink RL 29 yX0_lead, .instanceMethod yX0_lead, .selects RX0 yX0_lead yX0_lead, .initialized RX0, .code yX0_lead cX0_lead 6 (some .int), .fieldLink RX0 16 "SignRail" "leads" "[I", .methodLink RX0 81 yX0_requireExit, .static yX0_requireExit, .code yX0_requireExit cX0_requireExit 2 none, .classLink RX0 135 "java/lang/IndexOutOfBoundsException", .initialized "java/lang/IndexOutOfBoundsException", .methodLink RX0 85 yX0_requirePlace, .static yX0_requirePlace, .code yX0_requirePlace cX0_requirePlace 1 none, .methodLink RX0 88 yX0_wayOf, .static yX0_wayOf, .code yX0_wayOf cX0_wayOf 2 (some .int), .methodLink RX0 60 yX0_forgetWalks, .instanceMethod yX0_forgetWalks, .selects RX0 yX0_forgetWalks yX0_forgetWalks, .code yX0_forgetWalks cX0_forgetWalks 1 none, .fieldLink RX0 35 "SignRail" "keptGoal" "I"] ++ wsX00 ++ (vx_atS RX0 139 "java/lang/IndexOutOfBoundsException" ["java/lang/RuntimeException", "java/lang/Exception"]).filter goodWord)
def wsL_name_r1 : List Cond := [Cond.classLink RL 13 "java/lang/IndexOutOfBoundsException", Cond.classLink RL 15 "java/lang/IllegalArgumentException", Cond.methodLink RL 32 yX0_name, Cond.instanceMethod yX0_name, Cond.selects RX0 yX0_name yX0_name, Cond.initialized RX0, Cond.code yX0_name cX0_name 4 none, Cond.fieldLink RX0 19 "SignRail" "names" "[I", Cond.methodLink RX0 85 yX0_requirePlace, Cond.static yX0_requirePlace, Cond.code yX0_requirePlace cX0_requirePlace 1 none, Cond.classLink RX0 135 "java/lang/IndexOutOfBoundsException", Cond.initialized "java/lang/IndexOutOfBoundsException", Cond.methodLink RX0 91 yX0_requireText, Cond.static yX0_requireText, Cond.code yX0_requireText cX0_requireText 2 none, Cond.classLink RX0 71 "java/lang/IllegalArgumentException", Cond.initialized "java/lang/IllegalArgumentException", Cond.methodLink RX0 94 yX0_pack, Cond.static yX0_pack, Cond.code yX0_pack cX0_pack 2 (some .int), Cond.methodLink RX0 60 yX0_forgetWalks, Cond.instanceMethod yX0_forgetWalks, Cond.selects RX0 yX0_forgetWalks yX0_forgetWalks]
def wsL_name_r2 : List Cond := [Cond.code yX0_forgetWalks cX0_forgetWalks 1 none, Cond.fieldLink RX0 35 "SignRail" "keptGoal" "I"]
def wsL_name : List Cond := .codeWith yL_name cL_name 5 (some .int) [(0, 7, 10, 13), (0, 7, 14, 15)] :: ((wsL_name_r1 ++ wsL_name_r2) ++ wsX00 ++ (vx_atS RX0 139 "java/lang/IndexOutOfBoundsException" ["java/lang/RuntimeException", "java/lang/Exception"]).filter goodWord ++ (vx_atS RX0 75 "java/lang/IllegalArgumentException" ["java/lang/RuntimeException", "java/lang/Exception"]).filter goodWord)
def wsL_textWidth_r1 : List Cond := [Cond.classLink RL 15 "java/lang/IllegalArgumentException", Cond.methodLink RL 36 yX0_textWidth, Cond.instanceMethod yX0_textWidth, Cond.selects RX0 yX0_textWidth yX0_textWidth, Cond.initialized RX0, Cond.code yX0_textWidth cX0_textWidth 3 (some .int), Cond.methodLink RX0 91 yX0_requireText, Cond.static yX0_requireText, Cond.code yX0_requireText cX0_requireText 2 none, Cond.classLink RX0 71 "java/lang/IllegalArgumentException", Cond.initialized "java/lang/IllegalArgumentException", Cond.methodLink RX0 94 yX0_pack, Cond.static yX0_pack, Cond.code yX0_pack cX0_pack 2 (some .int), Cond.methodLink RX0 97 yX0_packedWidth, Cond.instanceMethod yX0_packedWidth, Cond.selects RX0 yX0_packedWidth yX0_packedWidth, Cond.code yX0_packedWidth cX0_packedWidth 5 (some .int), Cond.fieldLink RX0 9 "SignRail" "shapes" "[I", Cond.fieldLink RX0 13 "SignRail" "spaces" "[I", Cond.methodLink RX0 175 yX0_manyOf, Cond.static yX0_manyOf, Cond.code yX0_manyOf cX0_manyOf 1 (some .int), Cond.methodLink RX0 178 yX0_glyphAt]
def wsL_textWidth_r2 : List Cond := [Cond.static yX0_glyphAt, Cond.code yX0_glyphAt cX0_glyphAt 2 (some .int), Cond.methodLink RX0 67 yX0_shapeWidth, Cond.static yX0_shapeWidth, Cond.code yX0_shapeWidth cX0_shapeWidth 4 (some .int), Cond.methodLink RX0 172 yX0_hasColumn, Cond.static yX0_hasColumn, Cond.code yX0_hasColumn cX0_hasColumn 2 (some .boolean), Cond.methodLink RX0 56 yX0_lineCells, Cond.static yX0_lineCells, Cond.code yX0_lineCells cX0_lineCells 9 (some .int), Cond.methodLink RX0 154 Lib.Math.abs.name, Cond.static Lib.Math.abs.name, Cond.initialized "java/lang/Math", Cond.code Lib.Math.abs.name Lib.Math.abs.code 1 (some .int), Cond.methodLink RX0 161 Lib.Math.max.name, Cond.static Lib.Math.max.name, Cond.code Lib.Math.max.name Lib.Math.max.code 2 (some .int), Cond.methodLink RX0 164 yX0_direction, Cond.static yX0_direction, Cond.code yX0_direction cX0_direction 2 (some .int), Cond.methodLink RX0 78 yX0_pairOf, Cond.static yX0_pairOf, Cond.code yX0_pairOf cX0_pairOf 2 (some .int)]
def wsL_textWidth : List Cond := .codeWith yL_textWidth cL_textWidth 5 (some .int) [(0, 10, 13, 15)] :: ((wsL_textWidth_r1 ++ wsL_textWidth_r2) ++ wsX00 ++ (vx_atS RX0 75 "java/lang/IllegalArgumentException" ["java/lang/RuntimeException", "java/lang/Exception"]).filter goodWord)
def wsL_cut_r1 : List Cond := [Cond.classLink RL 13 "java/lang/IndexOutOfBoundsException", Cond.classLink RL 15 "java/lang/IllegalArgumentException", Cond.classLink RL 43 "java/lang/IllegalStateException", Cond.methodLink RL 39 yX0_cut, Cond.instanceMethod yX0_cut, Cond.selects RX0 yX0_cut yX0_cut, Cond.initialized RX0, Cond.code yX0_cut cX0_cut 9 (some .int), Cond.classLink RX0 71 "java/lang/IllegalArgumentException", Cond.initialized "java/lang/IllegalArgumentException", Cond.classLink RX0 105 "java/lang/IllegalStateException", Cond.initialized "java/lang/IllegalStateException", Cond.fieldLink RX0 22 "SignRail" "signTexts" "[I", Cond.fieldLink RX0 25 "SignRail" "signDistances" "[I", Cond.methodLink RX0 81 yX0_requireExit, Cond.static yX0_requireExit, Cond.code yX0_requireExit cX0_requireExit 2 none, Cond.classLink RX0 135 "java/lang/IndexOutOfBoundsException", Cond.initialized "java/lang/IndexOutOfBoundsException", Cond.methodLink RX0 85 yX0_requirePlace, Cond.static yX0_requirePlace, Cond.code yX0_requirePlace cX0_requirePlace 1 none, Cond.methodLink RX0 91 yX0_requireText, Cond.static yX0_requireText]
def wsL_cut_r2 : List Cond := [Cond.code yX0_requireText cX0_requireText 2 none, Cond.methodLink RX0 94 yX0_pack, Cond.static yX0_pack, Cond.code yX0_pack cX0_pack 2 (some .int), Cond.methodLink RX0 102 yX0_plateFor, Cond.instanceMethod yX0_plateFor, Cond.selects RX0 yX0_plateFor yX0_plateFor, Cond.code yX0_plateFor cX0_plateFor 3 (some .int), Cond.methodLink RX0 97 yX0_packedWidth, Cond.instanceMethod yX0_packedWidth, Cond.selects RX0 yX0_packedWidth yX0_packedWidth, Cond.code yX0_packedWidth cX0_packedWidth 5 (some .int), Cond.fieldLink RX0 9 "SignRail" "shapes" "[I", Cond.fieldLink RX0 13 "SignRail" "spaces" "[I", Cond.methodLink RX0 175 yX0_manyOf, Cond.static yX0_manyOf, Cond.code yX0_manyOf cX0_manyOf 1 (some .int), Cond.methodLink RX0 178 yX0_glyphAt, Cond.static yX0_glyphAt, Cond.code yX0_glyphAt cX0_glyphAt 2 (some .int), Cond.methodLink RX0 67 yX0_shapeWidth, Cond.static yX0_shapeWidth, Cond.code yX0_shapeWidth cX0_shapeWidth 4 (some .int), Cond.methodLink RX0 172 yX0_hasColumn]
def wsL_cut_r3 : List Cond := [Cond.static yX0_hasColumn, Cond.code yX0_hasColumn cX0_hasColumn 2 (some .boolean), Cond.methodLink RX0 56 yX0_lineCells, Cond.static yX0_lineCells, Cond.code yX0_lineCells cX0_lineCells 9 (some .int), Cond.methodLink RX0 154 Lib.Math.abs.name, Cond.static Lib.Math.abs.name, Cond.initialized "java/lang/Math", Cond.code Lib.Math.abs.name Lib.Math.abs.code 1 (some .int), Cond.methodLink RX0 161 Lib.Math.max.name, Cond.static Lib.Math.max.name, Cond.code Lib.Math.max.name Lib.Math.max.code 2 (some .int), Cond.methodLink RX0 164 yX0_direction, Cond.static yX0_direction, Cond.code yX0_direction cX0_direction 2 (some .int), Cond.methodLink RX0 78 yX0_pairOf, Cond.static yX0_pairOf, Cond.code yX0_pairOf cX0_pairOf 2 (some .int), Cond.methodLink RX0 88 yX0_wayOf, Cond.static yX0_wayOf, Cond.code yX0_wayOf cX0_wayOf 2 (some .int), Cond.methodLink RX0 110 yX0_engrave, Cond.instanceMethod yX0_engrave, Cond.selects RX0 yX0_engrave yX0_engrave]
def wsL_cut_r4 : List Cond := [Cond.code yX0_engrave cX0_engrave 5 none, Cond.fieldLink RX0 28 "SignRail" "signShapes" "[I", Cond.fieldLink RX0 31 "SignRail" "costSoFar" "J", Cond.methodLink RX0 60 yX0_forgetWalks, Cond.instanceMethod yX0_forgetWalks, Cond.selects RX0 yX0_forgetWalks yX0_forgetWalks, Cond.code yX0_forgetWalks cX0_forgetWalks 1 none, Cond.fieldLink RX0 35 "SignRail" "keptGoal" "I"]
def wsL_cut : List Cond := .codeWith yL_cut cL_cut 8 (some .int) [(0, 16, 19, 13), (0, 16, 23, 15), (0, 16, 27, 43)] :: ((wsL_cut_r1 ++ (wsL_cut_r2 ++ (wsL_cut_r3 ++ wsL_cut_r4))) ++ wsX00 ++ (vx_atS RX0 75 "java/lang/IllegalArgumentException" ["java/lang/RuntimeException", "java/lang/Exception"]).filter goodWord ++ (vx_atS RX0 109 "java/lang/IllegalStateException" ["java/lang/RuntimeException", "java/lang/Exception"]).filter goodWord ++ (vx_atS RX0 139 "java/lang/IndexOutOfBoundsException" ["java/lang/RuntimeException", "java/lang/Exception"]).filter goodWord)
def wsL_remove : List Cond := .codeWith yL_remove cL_remove 5 (some .int) [(0, 17, 20, 13)] :: ([.classLink RL 13 "java/lang/IndexOutOfBoundsException", .methodLink RL 45 yX0_remove, .instanceMethod yX0_remove, .selects RX0 yX0_remove yX0_remove, .initialized RX0, .code yX0_remove cX0_remove 5 (some .boolean), .fieldLink RX0 22 "SignRail" "signTexts" "[I", .methodLink RX0 81 yX0_requireExit, .static yX0_requireExit, .code yX0_requireExit cX0_requireExit 2 none, .classLink RX0 135 "java/lang/IndexOutOfBoundsException", .initialized "java/lang/IndexOutOfBoundsException", .methodLink RX0 85 yX0_requirePlace, .static yX0_requirePlace, .code yX0_requirePlace cX0_requirePlace 1 none, .methodLink RX0 88 yX0_wayOf, .static yX0_wayOf, .code yX0_wayOf cX0_wayOf 2 (some .int), .methodLink RX0 60 yX0_forgetWalks, .instanceMethod yX0_forgetWalks, .selects RX0 yX0_forgetWalks yX0_forgetWalks, .code yX0_forgetWalks cX0_forgetWalks 1 none, .fieldLink RX0 35 "SignRail" "keptGoal" "I"] ++ wsX00 ++ (vx_atS RX0 139 "java/lang/IndexOutOfBoundsException" ["java/lang/RuntimeException", "java/lang/Exception"]).filter goodWord)
def wsL_isOld_r1 : List Cond := [Cond.classLink RL 13 "java/lang/IndexOutOfBoundsException", Cond.methodLink RL 49 yX0_isOld, Cond.instanceMethod yX0_isOld, Cond.selects RX0 yX0_isOld yX0_isOld, Cond.initialized RX0, Cond.code yX0_isOld cX0_isOld 3 (some .boolean), Cond.methodLink RX0 81 yX0_requireExit, Cond.static yX0_requireExit, Cond.code yX0_requireExit cX0_requireExit 2 none, Cond.classLink RX0 135 "java/lang/IndexOutOfBoundsException", Cond.initialized "java/lang/IndexOutOfBoundsException", Cond.methodLink RX0 85 yX0_requirePlace, Cond.static yX0_requirePlace, Cond.code yX0_requirePlace cX0_requirePlace 1 none, Cond.methodLink RX0 88 yX0_wayOf, Cond.static yX0_wayOf, Cond.code yX0_wayOf cX0_wayOf 2 (some .int), Cond.methodLink RX0 113 yX0_isOutdated, Cond.instanceMethod yX0_isOutdated, Cond.selects RX0 yX0_isOutdated yX0_isOutdated, Cond.code yX0_isOutdated cX0_isOutdated 4 (some .boolean), Cond.fieldLink RX0 22 "SignRail" "signTexts" "[I", Cond.fieldLink RX0 28 "SignRail" "signShapes" "[I", Cond.fieldLink RX0 9 "SignRail" "shapes" "[I"]
def wsL_isOld_r2 : List Cond := [Cond.methodLink RX0 175 yX0_manyOf, Cond.static yX0_manyOf, Cond.code yX0_manyOf cX0_manyOf 1 (some .int), Cond.methodLink RX0 178 yX0_glyphAt, Cond.static yX0_glyphAt, Cond.code yX0_glyphAt cX0_glyphAt 2 (some .int)]
def wsL_isOld : List Cond := .codeWith yL_isOld cL_isOld 5 (some .int) [(0, 17, 20, 13)] :: ((wsL_isOld_r1 ++ wsL_isOld_r2) ++ wsX00 ++ (vx_atS RX0 139 "java/lang/IndexOutOfBoundsException" ["java/lang/RuntimeException", "java/lang/Exception"]).filter goodWord)
def wsL_remake_r1 : List Cond := [Cond.classLink RL 43 "java/lang/IllegalStateException", Cond.methodLink RL 52 yX0_remake, Cond.instanceMethod yX0_remake, Cond.selects RX0 yX0_remake yX0_remake, Cond.initialized RX0, Cond.code yX0_remake cX0_remake 3 (some .int), Cond.fieldLink RX0 22 "SignRail" "signTexts" "[I", Cond.methodLink RX0 117 yX0_requirePlatesForOutdated, Cond.instanceMethod yX0_requirePlatesForOutdated, Cond.selects RX0 yX0_requirePlatesForOutdated yX0_requirePlatesForOutdated, Cond.code yX0_requirePlatesForOutdated cX0_requirePlatesForOutdated 2 none, Cond.classLink RX0 105 "java/lang/IllegalStateException", Cond.initialized "java/lang/IllegalStateException", Cond.methodLink RX0 113 yX0_isOutdated, Cond.instanceMethod yX0_isOutdated, Cond.selects RX0 yX0_isOutdated yX0_isOutdated, Cond.code yX0_isOutdated cX0_isOutdated 4 (some .boolean), Cond.fieldLink RX0 28 "SignRail" "signShapes" "[I", Cond.fieldLink RX0 9 "SignRail" "shapes" "[I", Cond.methodLink RX0 175 yX0_manyOf, Cond.static yX0_manyOf, Cond.code yX0_manyOf cX0_manyOf 1 (some .int), Cond.methodLink RX0 178 yX0_glyphAt, Cond.static yX0_glyphAt]
def wsL_remake_r2 : List Cond := [Cond.code yX0_glyphAt cX0_glyphAt 2 (some .int), Cond.methodLink RX0 102 yX0_plateFor, Cond.instanceMethod yX0_plateFor, Cond.selects RX0 yX0_plateFor yX0_plateFor, Cond.code yX0_plateFor cX0_plateFor 3 (some .int), Cond.methodLink RX0 97 yX0_packedWidth, Cond.instanceMethod yX0_packedWidth, Cond.selects RX0 yX0_packedWidth yX0_packedWidth, Cond.code yX0_packedWidth cX0_packedWidth 5 (some .int), Cond.fieldLink RX0 13 "SignRail" "spaces" "[I", Cond.methodLink RX0 67 yX0_shapeWidth, Cond.static yX0_shapeWidth, Cond.code yX0_shapeWidth cX0_shapeWidth 4 (some .int), Cond.methodLink RX0 172 yX0_hasColumn, Cond.static yX0_hasColumn, Cond.code yX0_hasColumn cX0_hasColumn 2 (some .boolean), Cond.methodLink RX0 56 yX0_lineCells, Cond.static yX0_lineCells, Cond.code yX0_lineCells cX0_lineCells 9 (some .int), Cond.methodLink RX0 154 Lib.Math.abs.name, Cond.static Lib.Math.abs.name, Cond.initialized "java/lang/Math", Cond.code Lib.Math.abs.name Lib.Math.abs.code 1 (some .int), Cond.methodLink RX0 161 Lib.Math.max.name]
def wsL_remake_r3 : List Cond := [Cond.static Lib.Math.max.name, Cond.code Lib.Math.max.name Lib.Math.max.code 2 (some .int), Cond.methodLink RX0 164 yX0_direction, Cond.static yX0_direction, Cond.code yX0_direction cX0_direction 2 (some .int), Cond.methodLink RX0 78 yX0_pairOf, Cond.static yX0_pairOf, Cond.code yX0_pairOf cX0_pairOf 2 (some .int), Cond.methodLink RX0 110 yX0_engrave, Cond.instanceMethod yX0_engrave, Cond.selects RX0 yX0_engrave yX0_engrave, Cond.code yX0_engrave cX0_engrave 5 none, Cond.fieldLink RX0 31 "SignRail" "costSoFar" "J", Cond.methodLink RX0 60 yX0_forgetWalks, Cond.instanceMethod yX0_forgetWalks, Cond.selects RX0 yX0_forgetWalks yX0_forgetWalks, Cond.code yX0_forgetWalks cX0_forgetWalks 1 none, Cond.fieldLink RX0 35 "SignRail" "keptGoal" "I"]
def wsL_remake : List Cond := .codeWith yL_remake cL_remake 3 (some .int) [(0, 8, 11, 43)] :: ((wsL_remake_r1 ++ (wsL_remake_r2 ++ wsL_remake_r3)) ++ wsX00 ++ (vx_atS RX0 109 "java/lang/IllegalStateException" ["java/lang/RuntimeException", "java/lang/Exception"]).filter goodWord)
def wsL_read_r1 : List Cond := [Cond.classLink RL 13 "java/lang/IndexOutOfBoundsException", Cond.methodLink RL 56 yX0_read, Cond.instanceMethod yX0_read, Cond.selects RX0 yX0_read yX0_read, Cond.initialized RX0, Cond.code yX0_read cX0_read 4 (some .int), Cond.fieldLink RX0 22 "SignRail" "signTexts" "[I", Cond.methodLink RX0 81 yX0_requireExit, Cond.static yX0_requireExit, Cond.code yX0_requireExit cX0_requireExit 2 none, Cond.classLink RX0 135 "java/lang/IndexOutOfBoundsException", Cond.initialized "java/lang/IndexOutOfBoundsException", Cond.methodLink RX0 85 yX0_requirePlace, Cond.static yX0_requirePlace, Cond.code yX0_requirePlace cX0_requirePlace 1 none, Cond.methodLink RX0 88 yX0_wayOf, Cond.static yX0_wayOf, Cond.code yX0_wayOf cX0_wayOf 2 (some .int), Cond.methodLink RX0 120 yX0_readText, Cond.instanceMethod yX0_readText, Cond.selects RX0 yX0_readText yX0_readText, Cond.code yX0_readText cX0_readText 6 (some .int), Cond.fieldLink RX0 28 "SignRail" "signShapes" "[I", Cond.fieldLink RX0 25 "SignRail" "signDistances" "[I"]
def wsL_read_r2 : List Cond := [Cond.methodLink RX0 175 yX0_manyOf, Cond.static yX0_manyOf, Cond.code yX0_manyOf cX0_manyOf 1 (some .int), Cond.methodLink RX0 181 yX0_readGlyph, Cond.instanceMethod yX0_readGlyph, Cond.selects RX0 yX0_readGlyph yX0_readGlyph, Cond.code yX0_readGlyph cX0_readGlyph 6 (some .int), Cond.fieldLink RX0 9 "SignRail" "shapes" "[I", Cond.methodLink RX0 184 yX0_nearestGlyph, Cond.instanceMethod yX0_nearestGlyph, Cond.selects RX0 yX0_nearestGlyph yX0_nearestGlyph, Cond.code yX0_nearestGlyph cX0_nearestGlyph 5 (some .int), Cond.methodLink RX0 63 yX0_differing, Cond.static yX0_differing, Cond.code yX0_differing cX0_differing 2 (some .int), Cond.methodLink RX0 167 yJ6_bitCount_0f7a4, Cond.static yJ6_bitCount_0f7a4, Cond.initialized RJ6, Cond.code yJ6_bitCount_0f7a4 cJ6_bitCount_0f7a4 1 (some .int), Cond.constant RJ6 265 (1431655765), Cond.constant RJ6 266 (858993459), Cond.constant RJ6 267 (252645135), Cond.methodLink RX0 94 yX0_pack, Cond.static yX0_pack]
def wsL_read_r3 : List Cond := [Cond.code yX0_pack cX0_pack 2 (some .int), Cond.methodLink RX0 123 yX0_numberOf, Cond.static yX0_numberOf, Cond.code yX0_numberOf cX0_numberOf 1 (some .int)]
def wsL_read : List Cond := .codeWith yL_read cL_read 5 (some .int) [(0, 10, 13, 13)] :: ((wsL_read_r1 ++ (wsL_read_r2 ++ wsL_read_r3)) ++ wsX00 ++ (vx_atS RX0 139 "java/lang/IndexOutOfBoundsException" ["java/lang/RuntimeException", "java/lang/Exception"]).filter goodWord)
def wsL_walk_r1 : List Cond := [Cond.classLink RL 13 "java/lang/IndexOutOfBoundsException", Cond.classLink RL 15 "java/lang/IllegalArgumentException", Cond.methodLink RL 59 yX0_walk, Cond.instanceMethod yX0_walk, Cond.selects RX0 yX0_walk yX0_walk, Cond.initialized RX0, Cond.code yX0_walk cX0_walk 5 (some .int), Cond.fieldLink RX0 35 "SignRail" "keptGoal" "I", Cond.fieldLink RX0 39 "SignRail" "keptSteps" "[I", Cond.methodLink RX0 85 yX0_requirePlace, Cond.static yX0_requirePlace, Cond.code yX0_requirePlace cX0_requirePlace 1 none, Cond.classLink RX0 135 "java/lang/IndexOutOfBoundsException", Cond.initialized "java/lang/IndexOutOfBoundsException", Cond.methodLink RX0 91 yX0_requireText, Cond.static yX0_requireText, Cond.code yX0_requireText cX0_requireText 2 none, Cond.classLink RX0 71 "java/lang/IllegalArgumentException", Cond.initialized "java/lang/IllegalArgumentException", Cond.methodLink RX0 94 yX0_pack, Cond.static yX0_pack, Cond.code yX0_pack cX0_pack 2 (some .int), Cond.methodLink RX0 42 yJ7_fill_53178, Cond.static yJ7_fill_53178]
def wsL_walk_r2 : List Cond := [Cond.initialized RJ7, Cond.code yJ7_fill_53178 cJ7_fill_53178 4 none, Cond.methodLink RX0 126 yX0_stepsToArrive, Cond.instanceMethod yX0_stepsToArrive, Cond.selects RX0 yX0_stepsToArrive yX0_stepsToArrive, Cond.code yX0_stepsToArrive cX0_stepsToArrive 7 (some .int), Cond.fieldLink RX0 19 "SignRail" "names" "[I", Cond.fieldLink RX0 16 "SignRail" "leads" "[I", Cond.methodLink RX0 187 yX0_nextWay, Cond.instanceMethod yX0_nextWay, Cond.selects RX0 yX0_nextWay yX0_nextWay, Cond.code yX0_nextWay cX0_nextWay 7 (some .int), Cond.methodLink RX0 88 yX0_wayOf, Cond.static yX0_wayOf, Cond.code yX0_wayOf cX0_wayOf 2 (some .int), Cond.methodLink RX0 190 yX0_isReadAs, Cond.instanceMethod yX0_isReadAs, Cond.selects RX0 yX0_isReadAs yX0_isReadAs, Cond.code yX0_isReadAs cX0_isReadAs 3 (some .boolean), Cond.fieldLink RX0 22 "SignRail" "signTexts" "[I", Cond.methodLink RX0 175 yX0_manyOf, Cond.static yX0_manyOf, Cond.code yX0_manyOf cX0_manyOf 1 (some .int), Cond.methodLink RX0 120 yX0_readText]
def wsL_walk_r3 : List Cond := [Cond.instanceMethod yX0_readText, Cond.selects RX0 yX0_readText yX0_readText, Cond.code yX0_readText cX0_readText 6 (some .int), Cond.fieldLink RX0 28 "SignRail" "signShapes" "[I", Cond.fieldLink RX0 25 "SignRail" "signDistances" "[I", Cond.methodLink RX0 181 yX0_readGlyph, Cond.instanceMethod yX0_readGlyph, Cond.selects RX0 yX0_readGlyph yX0_readGlyph, Cond.code yX0_readGlyph cX0_readGlyph 6 (some .int), Cond.fieldLink RX0 9 "SignRail" "shapes" "[I", Cond.methodLink RX0 184 yX0_nearestGlyph, Cond.instanceMethod yX0_nearestGlyph, Cond.selects RX0 yX0_nearestGlyph yX0_nearestGlyph, Cond.code yX0_nearestGlyph cX0_nearestGlyph 5 (some .int), Cond.methodLink RX0 63 yX0_differing, Cond.static yX0_differing, Cond.code yX0_differing cX0_differing 2 (some .int), Cond.methodLink RX0 167 yJ6_bitCount_0f7a4, Cond.static yJ6_bitCount_0f7a4, Cond.initialized RJ6, Cond.code yJ6_bitCount_0f7a4 cJ6_bitCount_0f7a4 1 (some .int), Cond.constant RJ6 265 (1431655765), Cond.constant RJ6 266 (858993459), Cond.constant RJ6 267 (252645135)]
def wsL_walk : List Cond := .codeWith yL_walk cL_walk 6 (some .int) [(0, 12, 15, 13), (0, 12, 19, 15)] :: ((wsL_walk_r1 ++ (wsL_walk_r2 ++ wsL_walk_r3)) ++ wsX00 ++ (vx_atS RX0 139 "java/lang/IndexOutOfBoundsException" ["java/lang/RuntimeException", "java/lang/Exception"]).filter goodWord ++ (vx_atS RX0 75 "java/lang/IllegalArgumentException" ["java/lang/RuntimeException", "java/lang/Exception"]).filter goodWord)
def wsL_walkBySteps_r1 : List Cond := [Cond.classLink RL 13 "java/lang/IndexOutOfBoundsException", Cond.classLink RL 15 "java/lang/IllegalArgumentException", Cond.methodLink RL 62 yX0_walkBySteps, Cond.instanceMethod yX0_walkBySteps, Cond.selects RX0 yX0_walkBySteps yX0_walkBySteps, Cond.initialized RX0, Cond.code yX0_walkBySteps cX0_walkBySteps 4 (some .int), Cond.methodLink RX0 85 yX0_requirePlace, Cond.static yX0_requirePlace, Cond.code yX0_requirePlace cX0_requirePlace 1 none, Cond.classLink RX0 135 "java/lang/IndexOutOfBoundsException", Cond.initialized "java/lang/IndexOutOfBoundsException", Cond.methodLink RX0 91 yX0_requireText, Cond.static yX0_requireText, Cond.code yX0_requireText cX0_requireText 2 none, Cond.classLink RX0 71 "java/lang/IllegalArgumentException", Cond.initialized "java/lang/IllegalArgumentException", Cond.methodLink RX0 94 yX0_pack, Cond.static yX0_pack, Cond.code yX0_pack cX0_pack 2 (some .int), Cond.methodLink RX0 126 yX0_stepsToArrive, Cond.instanceMethod yX0_stepsToArrive, Cond.selects RX0 yX0_stepsToArrive yX0_stepsToArrive, Cond.code yX0_stepsToArrive cX0_stepsToArrive 7 (some .int)]
def wsL_walkBySteps_r2 : List Cond := [Cond.fieldLink RX0 19 "SignRail" "names" "[I", Cond.fieldLink RX0 16 "SignRail" "leads" "[I", Cond.methodLink RX0 187 yX0_nextWay, Cond.instanceMethod yX0_nextWay, Cond.selects RX0 yX0_nextWay yX0_nextWay, Cond.code yX0_nextWay cX0_nextWay 7 (some .int), Cond.methodLink RX0 88 yX0_wayOf, Cond.static yX0_wayOf, Cond.code yX0_wayOf cX0_wayOf 2 (some .int), Cond.methodLink RX0 190 yX0_isReadAs, Cond.instanceMethod yX0_isReadAs, Cond.selects RX0 yX0_isReadAs yX0_isReadAs, Cond.code yX0_isReadAs cX0_isReadAs 3 (some .boolean), Cond.fieldLink RX0 22 "SignRail" "signTexts" "[I", Cond.methodLink RX0 175 yX0_manyOf, Cond.static yX0_manyOf, Cond.code yX0_manyOf cX0_manyOf 1 (some .int), Cond.methodLink RX0 120 yX0_readText, Cond.instanceMethod yX0_readText, Cond.selects RX0 yX0_readText yX0_readText, Cond.code yX0_readText cX0_readText 6 (some .int), Cond.fieldLink RX0 28 "SignRail" "signShapes" "[I", Cond.fieldLink RX0 25 "SignRail" "signDistances" "[I", Cond.methodLink RX0 181 yX0_readGlyph]
def wsL_walkBySteps_r3 : List Cond := [Cond.instanceMethod yX0_readGlyph, Cond.selects RX0 yX0_readGlyph yX0_readGlyph, Cond.code yX0_readGlyph cX0_readGlyph 6 (some .int), Cond.fieldLink RX0 9 "SignRail" "shapes" "[I", Cond.methodLink RX0 184 yX0_nearestGlyph, Cond.instanceMethod yX0_nearestGlyph, Cond.selects RX0 yX0_nearestGlyph yX0_nearestGlyph, Cond.code yX0_nearestGlyph cX0_nearestGlyph 5 (some .int), Cond.methodLink RX0 63 yX0_differing, Cond.static yX0_differing, Cond.code yX0_differing cX0_differing 2 (some .int), Cond.methodLink RX0 167 yJ6_bitCount_0f7a4, Cond.static yJ6_bitCount_0f7a4, Cond.initialized RJ6, Cond.code yJ6_bitCount_0f7a4 cJ6_bitCount_0f7a4 1 (some .int), Cond.constant RJ6 265 (1431655765), Cond.constant RJ6 266 (858993459), Cond.constant RJ6 267 (252645135)]
def wsL_walkBySteps : List Cond := .codeWith yL_walkBySteps cL_walkBySteps 6 (some .int) [(0, 12, 15, 13), (0, 12, 19, 15)] :: ((wsL_walkBySteps_r1 ++ (wsL_walkBySteps_r2 ++ wsL_walkBySteps_r3)) ++ wsX00 ++ (vx_atS RX0 139 "java/lang/IndexOutOfBoundsException" ["java/lang/RuntimeException", "java/lang/Exception"]).filter goodWord ++ (vx_atS RX0 75 "java/lang/IllegalArgumentException" ["java/lang/RuntimeException", "java/lang/Exception"]).filter goodWord)
def wsL_placeBehind_r1 : List Cond := [Cond.classLink RL 13 "java/lang/IndexOutOfBoundsException", Cond.classLink RL 15 "java/lang/IllegalArgumentException", Cond.methodLink RL 65 yX0_placeBehind, Cond.instanceMethod yX0_placeBehind, Cond.selects RX0 yX0_placeBehind yX0_placeBehind, Cond.initialized RX0, Cond.code yX0_placeBehind cX0_placeBehind 5 (some .int), Cond.classLink RX0 71 "java/lang/IllegalArgumentException", Cond.initialized "java/lang/IllegalArgumentException", Cond.methodLink RX0 85 yX0_requirePlace, Cond.static yX0_requirePlace, Cond.code yX0_requirePlace cX0_requirePlace 1 none, Cond.classLink RX0 135 "java/lang/IndexOutOfBoundsException", Cond.initialized "java/lang/IndexOutOfBoundsException", Cond.methodLink RX0 91 yX0_requireText, Cond.static yX0_requireText, Cond.code yX0_requireText cX0_requireText 2 none, Cond.methodLink RX0 94 yX0_pack, Cond.static yX0_pack, Cond.code yX0_pack cX0_pack 2 (some .int), Cond.methodLink RX0 131 yX0_placeReached, Cond.instanceMethod yX0_placeReached, Cond.selects RX0 yX0_placeReached yX0_placeReached, Cond.code yX0_placeReached cX0_placeReached 8 (some .int)]
def wsL_placeBehind_r2 : List Cond := [Cond.fieldLink RX0 19 "SignRail" "names" "[I", Cond.fieldLink RX0 16 "SignRail" "leads" "[I", Cond.methodLink RX0 187 yX0_nextWay, Cond.instanceMethod yX0_nextWay, Cond.selects RX0 yX0_nextWay yX0_nextWay, Cond.code yX0_nextWay cX0_nextWay 7 (some .int), Cond.methodLink RX0 88 yX0_wayOf, Cond.static yX0_wayOf, Cond.code yX0_wayOf cX0_wayOf 2 (some .int), Cond.methodLink RX0 190 yX0_isReadAs, Cond.instanceMethod yX0_isReadAs, Cond.selects RX0 yX0_isReadAs yX0_isReadAs, Cond.code yX0_isReadAs cX0_isReadAs 3 (some .boolean), Cond.fieldLink RX0 22 "SignRail" "signTexts" "[I", Cond.methodLink RX0 175 yX0_manyOf, Cond.static yX0_manyOf, Cond.code yX0_manyOf cX0_manyOf 1 (some .int), Cond.methodLink RX0 120 yX0_readText, Cond.instanceMethod yX0_readText, Cond.selects RX0 yX0_readText yX0_readText, Cond.code yX0_readText cX0_readText 6 (some .int), Cond.fieldLink RX0 28 "SignRail" "signShapes" "[I", Cond.fieldLink RX0 25 "SignRail" "signDistances" "[I", Cond.methodLink RX0 181 yX0_readGlyph]
def wsL_placeBehind_r3 : List Cond := [Cond.instanceMethod yX0_readGlyph, Cond.selects RX0 yX0_readGlyph yX0_readGlyph, Cond.code yX0_readGlyph cX0_readGlyph 6 (some .int), Cond.fieldLink RX0 9 "SignRail" "shapes" "[I", Cond.methodLink RX0 184 yX0_nearestGlyph, Cond.instanceMethod yX0_nearestGlyph, Cond.selects RX0 yX0_nearestGlyph yX0_nearestGlyph, Cond.code yX0_nearestGlyph cX0_nearestGlyph 5 (some .int), Cond.methodLink RX0 63 yX0_differing, Cond.static yX0_differing, Cond.code yX0_differing cX0_differing 2 (some .int), Cond.methodLink RX0 167 yJ6_bitCount_0f7a4, Cond.static yJ6_bitCount_0f7a4, Cond.initialized RJ6, Cond.code yJ6_bitCount_0f7a4 cJ6_bitCount_0f7a4 1 (some .int), Cond.constant RJ6 265 (1431655765), Cond.constant RJ6 266 (858993459), Cond.constant RJ6 267 (252645135)]
def wsL_placeBehind : List Cond := .codeWith yL_placeBehind cL_placeBehind 7 (some .int) [(0, 14, 17, 13), (0, 14, 21, 15)] :: ((wsL_placeBehind_r1 ++ (wsL_placeBehind_r2 ++ wsL_placeBehind_r3)) ++ wsX00 ++ (vx_atS RX0 75 "java/lang/IllegalArgumentException" ["java/lang/RuntimeException", "java/lang/Exception"]).filter goodWord ++ (vx_atS RX0 139 "java/lang/IndexOutOfBoundsException" ["java/lang/RuntimeException", "java/lang/Exception"]).filter goodWord)
def wsL_law0_r1 : List Cond := [Cond.classLink RL 8 RX0, Cond.instantiable RX0 10, Cond.initialized RX0, Cond.classLink RL 70 RX1, Cond.instantiable RX1 15, Cond.initialized RX1, Cond.arrayClass .long, Cond.methodLink RL 69 yX0_init, Cond.instanceMethod yX0_init, Cond.code yX0_init cX0_init 1 none, Cond.methodLink RX0 3 objectInit, Cond.instanceMethod objectInit, Cond.code objectInit ⟨#[0xb1]⟩ 1 none, Cond.arrayClass .int, Cond.fieldLink RX0 9 "SignRail" "shapes" "[I", Cond.fieldLink RX0 13 "SignRail" "spaces" "[I", Cond.fieldLink RX0 16 "SignRail" "leads" "[I", Cond.fieldLink RX0 19 "SignRail" "names" "[I", Cond.fieldLink RX0 22 "SignRail" "signTexts" "[I", Cond.fieldLink RX0 25 "SignRail" "signDistances" "[I", Cond.fieldLink RX0 28 "SignRail" "signShapes" "[I", Cond.fieldLink RX0 31 "SignRail" "costSoFar" "J", Cond.fieldLink RX0 35 "SignRail" "keptGoal" "I", Cond.fieldLink RX0 39 "SignRail" "keptSteps" "[I"]
def wsL_law0_r2 : List Cond := [Cond.methodLink RX0 42 yJ7_fill_53178, Cond.static yJ7_fill_53178, Cond.initialized RJ7, Cond.code yJ7_fill_53178 cJ7_fill_53178 4 none, Cond.methodLink RL 72 yX1_init, Cond.instanceMethod yX1_init, Cond.code yX1_init cX1_init 2 none, Cond.methodLink RX1 1 objectInit, Cond.fieldLink RX1 7 "SignRailModel" "shapes" "[I", Cond.fieldLink RX1 13 "SignRailModel" "spaces" "[I", Cond.fieldLink RX1 16 "SignRailModel" "leads" "[I", Cond.fieldLink RX1 19 "SignRailModel" "names" "[I", Cond.fieldLink RX1 22 "SignRailModel" "nameMany" "[I", Cond.fieldLink RX1 25 "SignRailModel" "texts" "[I", Cond.fieldLink RX1 28 "SignRailModel" "many" "[I", Cond.fieldLink RX1 31 "SignRailModel" "distances" "[I", Cond.fieldLink RX1 34 "SignRailModel" "cuts" "[I", Cond.arrayClass .boolean, Cond.fieldLink RX1 37 "SignRailModel" "isTaken" "[Z", Cond.methodLink RL 73 yL_stroke, Cond.static yL_stroke, Cond.initialized RL, Cond.codeWith yL_stroke cL_stroke 9 (some .int) [(0, 18, 21, 13), (0, 18, 25, 15)], Cond.classLink RL 13 "java/lang/IndexOutOfBoundsException"]
def wsL_law0_r3 : List Cond := [Cond.classLink RL 15 "java/lang/IllegalArgumentException", Cond.methodLink RL 7 yX0_stroke, Cond.instanceMethod yX0_stroke, Cond.selects RX0 yX0_stroke yX0_stroke, Cond.code yX0_stroke cX0_stroke 10 (some .int), Cond.methodLink RX0 48 yX0_requireGlyph, Cond.static yX0_requireGlyph, Cond.code yX0_requireGlyph cX0_requireGlyph 1 none, Cond.classLink RX0 135 "java/lang/IndexOutOfBoundsException", Cond.initialized "java/lang/IndexOutOfBoundsException", Cond.methodLink RX0 52 yX0_requireLine, Cond.static yX0_requireLine, Cond.code yX0_requireLine cX0_requireLine 6 none, Cond.classLink RX0 71 "java/lang/IllegalArgumentException", Cond.initialized "java/lang/IllegalArgumentException", Cond.methodLink RX0 154 Lib.Math.abs.name, Cond.static Lib.Math.abs.name, Cond.initialized "java/lang/Math", Cond.code Lib.Math.abs.name Lib.Math.abs.code 1 (some .int), Cond.methodLink RX0 148 yX0_isCell, Cond.static yX0_isCell, Cond.code yX0_isCell cX0_isCell 2 (some .boolean), Cond.methodLink RX0 56 yX0_lineCells, Cond.static yX0_lineCells]
def wsL_law0_r4 : List Cond := [Cond.code yX0_lineCells cX0_lineCells 9 (some .int), Cond.methodLink RX0 161 Lib.Math.max.name, Cond.static Lib.Math.max.name, Cond.code Lib.Math.max.name Lib.Math.max.code 2 (some .int), Cond.methodLink RX0 164 yX0_direction, Cond.static yX0_direction, Cond.code yX0_direction cX0_direction 2 (some .int), Cond.methodLink RX0 60 yX0_forgetWalks, Cond.instanceMethod yX0_forgetWalks, Cond.selects RX0 yX0_forgetWalks yX0_forgetWalks, Cond.code yX0_forgetWalks cX0_forgetWalks 1 none, Cond.methodLink RX0 63 yX0_differing, Cond.static yX0_differing, Cond.code yX0_differing cX0_differing 2 (some .int), Cond.methodLink RX0 167 yJ6_bitCount_0f7a4, Cond.static yJ6_bitCount_0f7a4, Cond.initialized RJ6, Cond.code yJ6_bitCount_0f7a4 cJ6_bitCount_0f7a4 1 (some .int), Cond.constant RJ6 265 (1431655765), Cond.constant RJ6 266 (858993459), Cond.constant RJ6 267 (252645135), Cond.methodLink RL 78 yX1_stroke, Cond.instanceMethod yX1_stroke, Cond.selects RX1 yX1_stroke yX1_stroke]
def wsL_law0_r5 : List Cond := [Cond.code yX1_stroke cX1_stroke 19 (some .int), Cond.fieldLink RX1 41 "SignRailModel" "thrown" "I", Cond.methodLink RX1 45 yX1_in, Cond.static yX1_in, Cond.code yX1_in cX1_in 3 (some .boolean), Cond.methodLink RX1 57 yX1_isGlyph, Cond.static yX1_isGlyph, Cond.code yX1_isGlyph cX1_isGlyph 1 (some .boolean), Cond.methodLink RX1 60 yX1_fails, Cond.instanceMethod yX1_fails, Cond.selects RX1 yX1_fails yX1_fails, Cond.code yX1_fails cX1_fails 2 (some .int), Cond.methodLink RX1 63 yX1_bits, Cond.static yX1_bits, Cond.code yX1_bits cX1_bits 3 (some .int), Cond.methodLink RL 79 yX1_thrown, Cond.instanceMethod yX1_thrown, Cond.selects RX1 yX1_thrown yX1_thrown, Cond.code yX1_thrown cX1_thrown 1 (some .int), Cond.methodLink RL 82 yL_difference, Cond.static yL_difference, Cond.codeWith yL_difference cL_difference 5 (some .int) [(0, 10, 13, 13)], Cond.methodLink RL 17 yX0_difference, Cond.instanceMethod yX0_difference]
def wsL_law0_r6 : List Cond := [Cond.selects RX0 yX0_difference yX0_difference, Cond.code yX0_difference cX0_difference 3 (some .int), Cond.methodLink RL 85 yX1_difference, Cond.instanceMethod yX1_difference, Cond.selects RX1 yX1_difference yX1_difference, Cond.code yX1_difference cX1_difference 3 (some .int), Cond.methodLink RL 86 yL_width, Cond.static yL_width, Cond.codeWith yL_width cL_width 4 (some .int) [(0, 9, 12, 13)], Cond.methodLink RL 21 yX0_width, Cond.instanceMethod yX0_width, Cond.selects RX0 yX0_width yX0_width, Cond.code yX0_width cX0_width 2 (some .int), Cond.methodLink RX0 67 yX0_shapeWidth, Cond.static yX0_shapeWidth, Cond.code yX0_shapeWidth cX0_shapeWidth 4 (some .int), Cond.methodLink RX0 172 yX0_hasColumn, Cond.static yX0_hasColumn, Cond.code yX0_hasColumn cX0_hasColumn 2 (some .boolean), Cond.methodLink RL 89 yX1_width, Cond.instanceMethod yX1_width, Cond.selects RX1 yX1_width yX1_width, Cond.code yX1_width cX1_width 2 (some .int), Cond.methodLink RX1 66 yX1_widthOf]
def wsL_law0_r7 : List Cond := [Cond.instanceMethod yX1_widthOf, Cond.selects RX1 yX1_widthOf yX1_widthOf, Cond.code yX1_widthOf cX1_widthOf 7 (some .int), Cond.methodLink RL 90 yL_space, Cond.static yL_space, Cond.codeWith yL_space cL_space 6 (some .int) [(0, 12, 15, 13), (0, 12, 19, 15)], Cond.methodLink RL 25 yX0_space, Cond.instanceMethod yX0_space, Cond.selects RX0 yX0_space yX0_space, Cond.code yX0_space cX0_space 6 (some .int), Cond.methodLink RX0 78 yX0_pairOf, Cond.static yX0_pairOf, Cond.code yX0_pairOf cX0_pairOf 2 (some .int), Cond.methodLink RL 93 yX1_space, Cond.instanceMethod yX1_space, Cond.selects RX1 yX1_space yX1_space, Cond.code yX1_space cX1_space 5 (some .int), Cond.methodLink RL 94 yL_lead, Cond.static yL_lead, Cond.codeWith yL_lead cL_lead 6 (some .int) [(0, 12, 15, 13)], Cond.methodLink RL 29 yX0_lead, Cond.instanceMethod yX0_lead, Cond.selects RX0 yX0_lead yX0_lead, Cond.code yX0_lead cX0_lead 6 (some .int)]
def wsL_law0_r8 : List Cond := [Cond.methodLink RX0 81 yX0_requireExit, Cond.static yX0_requireExit, Cond.code yX0_requireExit cX0_requireExit 2 none, Cond.methodLink RX0 85 yX0_requirePlace, Cond.static yX0_requirePlace, Cond.code yX0_requirePlace cX0_requirePlace 1 none, Cond.methodLink RX0 88 yX0_wayOf, Cond.static yX0_wayOf, Cond.code yX0_wayOf cX0_wayOf 2 (some .int), Cond.methodLink RL 96 yX1_lead, Cond.instanceMethod yX1_lead, Cond.selects RX1 yX1_lead yX1_lead, Cond.code yX1_lead cX1_lead 5 (some .int), Cond.methodLink RX1 69 yX1_isExit, Cond.static yX1_isExit, Cond.code yX1_isExit cX1_isExit 2 (some .boolean), Cond.methodLink RX1 49 yX1_isPlace, Cond.static yX1_isPlace, Cond.code yX1_isPlace cX1_isPlace 1 (some .boolean), Cond.methodLink RL 97 yL_name, Cond.static yL_name, Cond.codeWith yL_name cL_name 5 (some .int) [(0, 7, 10, 13), (0, 7, 14, 15)], Cond.methodLink RL 32 yX0_name, Cond.instanceMethod yX0_name]
def wsL_law0_r9 : List Cond := [Cond.selects RX0 yX0_name yX0_name, Cond.code yX0_name cX0_name 4 none, Cond.methodLink RX0 91 yX0_requireText, Cond.static yX0_requireText, Cond.code yX0_requireText cX0_requireText 2 none, Cond.methodLink RX0 94 yX0_pack, Cond.static yX0_pack, Cond.code yX0_pack cX0_pack 2 (some .int), Cond.methodLink RL 100 yX1_name, Cond.instanceMethod yX1_name, Cond.selects RX1 yX1_name yX1_name, Cond.code yX1_name cX1_name 4 none, Cond.methodLink RX1 73 yX1_isText, Cond.static yX1_isText, Cond.code yX1_isText cX1_isText 2 (some .boolean), Cond.methodLink RX1 53 yX1_power, Cond.static yX1_power, Cond.code yX1_power cX1_power 3 (some .int), Cond.methodLink RL 101 yL_textWidth, Cond.static yL_textWidth, Cond.codeWith yL_textWidth cL_textWidth 5 (some .int) [(0, 10, 13, 15)], Cond.methodLink RL 36 yX0_textWidth, Cond.instanceMethod yX0_textWidth, Cond.selects RX0 yX0_textWidth yX0_textWidth]
def wsL_law0_r10 : List Cond := [Cond.code yX0_textWidth cX0_textWidth 3 (some .int), Cond.methodLink RX0 97 yX0_packedWidth, Cond.instanceMethod yX0_packedWidth, Cond.selects RX0 yX0_packedWidth yX0_packedWidth, Cond.code yX0_packedWidth cX0_packedWidth 5 (some .int), Cond.methodLink RX0 175 yX0_manyOf, Cond.static yX0_manyOf, Cond.code yX0_manyOf cX0_manyOf 1 (some .int), Cond.methodLink RX0 178 yX0_glyphAt, Cond.static yX0_glyphAt, Cond.code yX0_glyphAt cX0_glyphAt 2 (some .int), Cond.methodLink RL 103 yX1_textWidth, Cond.instanceMethod yX1_textWidth, Cond.selects RX1 yX1_textWidth yX1_textWidth, Cond.code yX1_textWidth cX1_textWidth 3 (some .int), Cond.methodLink RX1 80 yX1_widthOfText, Cond.instanceMethod yX1_widthOfText, Cond.selects RX1 yX1_widthOfText yX1_widthOfText, Cond.code yX1_widthOfText cX1_widthOfText 5 (some .int), Cond.methodLink RX1 76 yX1_glyph, Cond.static yX1_glyph, Cond.code yX1_glyph cX1_glyph 3 (some .int), Cond.methodLink RL 104 yL_cut, Cond.static yL_cut]
def wsL_law0_r11 : List Cond := [Cond.codeWith yL_cut cL_cut 8 (some .int) [(0, 16, 19, 13), (0, 16, 23, 15), (0, 16, 27, 43)], Cond.classLink RL 43 "java/lang/IllegalStateException", Cond.methodLink RL 39 yX0_cut, Cond.instanceMethod yX0_cut, Cond.selects RX0 yX0_cut yX0_cut, Cond.code yX0_cut cX0_cut 9 (some .int), Cond.classLink RX0 105 "java/lang/IllegalStateException", Cond.initialized "java/lang/IllegalStateException", Cond.methodLink RX0 102 yX0_plateFor, Cond.instanceMethod yX0_plateFor, Cond.selects RX0 yX0_plateFor yX0_plateFor, Cond.code yX0_plateFor cX0_plateFor 3 (some .int), Cond.methodLink RX0 110 yX0_engrave, Cond.instanceMethod yX0_engrave, Cond.selects RX0 yX0_engrave yX0_engrave, Cond.code yX0_engrave cX0_engrave 5 none, Cond.methodLink RL 107 yX1_cut, Cond.instanceMethod yX1_cut, Cond.selects RX1 yX1_cut yX1_cut, Cond.code yX1_cut cX1_cut 8 (some .int), Cond.methodLink RX1 88 yX1_plate, Cond.instanceMethod yX1_plate, Cond.selects RX1 yX1_plate yX1_plate, Cond.code yX1_plate cX1_plate 4 (some .int)]
def wsL_law0_r12 : List Cond := [Cond.methodLink RX1 91 yX1_cuts, Cond.instanceMethod yX1_cuts, Cond.selects RX1 yX1_cuts yX1_cuts, Cond.code yX1_cuts cX1_cuts 3 none, Cond.fieldLink RX1 84 "SignRailModel" "cost" "J", Cond.methodLink RL 108 yL_remove, Cond.static yL_remove, Cond.codeWith yL_remove cL_remove 5 (some .int) [(0, 17, 20, 13)], Cond.methodLink RL 45 yX0_remove, Cond.instanceMethod yX0_remove, Cond.selects RX0 yX0_remove yX0_remove, Cond.code yX0_remove cX0_remove 5 (some .boolean), Cond.methodLink RL 110 yX1_remove, Cond.instanceMethod yX1_remove, Cond.selects RX1 yX1_remove yX1_remove, Cond.code yX1_remove cX1_remove 4 (some .boolean), Cond.methodLink RL 111 yL_isOld, Cond.static yL_isOld, Cond.codeWith yL_isOld cL_isOld 5 (some .int) [(0, 17, 20, 13)], Cond.methodLink RL 49 yX0_isOld, Cond.instanceMethod yX0_isOld, Cond.selects RX0 yX0_isOld yX0_isOld, Cond.code yX0_isOld cX0_isOld 3 (some .boolean), Cond.methodLink RX0 113 yX0_isOutdated]
def wsL_law0_r13 : List Cond := [Cond.instanceMethod yX0_isOutdated, Cond.selects RX0 yX0_isOutdated yX0_isOutdated, Cond.code yX0_isOutdated cX0_isOutdated 4 (some .boolean), Cond.methodLink RL 113 yX1_isOld, Cond.instanceMethod yX1_isOld, Cond.selects RX1 yX1_isOld yX1_isOld, Cond.code yX1_isOld cX1_isOld 3 (some .boolean), Cond.methodLink RX1 94 yX1_old, Cond.instanceMethod yX1_old, Cond.selects RX1 yX1_old yX1_old, Cond.code yX1_old cX1_old 4 (some .boolean), Cond.methodLink RL 114 yL_remake, Cond.static yL_remake, Cond.codeWith yL_remake cL_remake 3 (some .int) [(0, 8, 11, 43)], Cond.methodLink RL 52 yX0_remake, Cond.instanceMethod yX0_remake, Cond.selects RX0 yX0_remake yX0_remake, Cond.code yX0_remake cX0_remake 3 (some .int), Cond.methodLink RX0 117 yX0_requirePlatesForOutdated, Cond.instanceMethod yX0_requirePlatesForOutdated, Cond.selects RX0 yX0_requirePlatesForOutdated yX0_requirePlatesForOutdated, Cond.code yX0_requirePlatesForOutdated cX0_requirePlatesForOutdated 2 none, Cond.methodLink RL 117 yX1_remake, Cond.instanceMethod yX1_remake]
def wsL_law0_r14 : List Cond := [Cond.selects RX1 yX1_remake yX1_remake, Cond.code yX1_remake cX1_remake 4 (some .int), Cond.methodLink RL 118 yL_read, Cond.static yL_read, Cond.codeWith yL_read cL_read 5 (some .int) [(0, 10, 13, 13)], Cond.methodLink RL 56 yX0_read, Cond.instanceMethod yX0_read, Cond.selects RX0 yX0_read yX0_read, Cond.code yX0_read cX0_read 4 (some .int), Cond.methodLink RX0 120 yX0_readText, Cond.instanceMethod yX0_readText, Cond.selects RX0 yX0_readText yX0_readText, Cond.code yX0_readText cX0_readText 6 (some .int), Cond.methodLink RX0 181 yX0_readGlyph, Cond.instanceMethod yX0_readGlyph, Cond.selects RX0 yX0_readGlyph yX0_readGlyph, Cond.code yX0_readGlyph cX0_readGlyph 6 (some .int), Cond.methodLink RX0 184 yX0_nearestGlyph, Cond.instanceMethod yX0_nearestGlyph, Cond.selects RX0 yX0_nearestGlyph yX0_nearestGlyph, Cond.code yX0_nearestGlyph cX0_nearestGlyph 5 (some .int), Cond.methodLink RX0 123 yX0_numberOf, Cond.static yX0_numberOf, Cond.code yX0_numberOf cX0_numberOf 1 (some .int)]
def wsL_law0_r15 : List Cond := [Cond.methodLink RL 120 yX1_read, Cond.instanceMethod yX1_read, Cond.selects RX1 yX1_read yX1_read, Cond.code yX1_read cX1_read 4 (some .int), Cond.methodLink RX1 100 yX1_reads, Cond.instanceMethod yX1_reads, Cond.selects RX1 yX1_reads yX1_reads, Cond.code yX1_reads cX1_reads 8 (some .int), Cond.methodLink RX1 97 yX1_nearest, Cond.instanceMethod yX1_nearest, Cond.selects RX1 yX1_nearest yX1_nearest, Cond.code yX1_nearest cX1_nearest 6 (some .int), Cond.methodLink RL 121 yX0_cost, Cond.instanceMethod yX0_cost, Cond.selects RX0 yX0_cost yX0_cost, Cond.code yX0_cost cX0_cost 1 (some .long), Cond.methodLink RL 125 yX1_cost, Cond.instanceMethod yX1_cost, Cond.selects RX1 yX1_cost yX1_cost, Cond.code yX1_cost cX1_cost 1 (some .long), Cond.methodLink RL 126 yL_walk, Cond.static yL_walk, Cond.codeWith yL_walk cL_walk 6 (some .int) [(0, 12, 15, 13), (0, 12, 19, 15)], Cond.methodLink RL 59 yX0_walk]
def wsL_law0_r16 : List Cond := [Cond.instanceMethod yX0_walk, Cond.selects RX0 yX0_walk yX0_walk, Cond.code yX0_walk cX0_walk 5 (some .int), Cond.methodLink RX0 126 yX0_stepsToArrive, Cond.instanceMethod yX0_stepsToArrive, Cond.selects RX0 yX0_stepsToArrive yX0_stepsToArrive, Cond.code yX0_stepsToArrive cX0_stepsToArrive 7 (some .int), Cond.methodLink RX0 187 yX0_nextWay, Cond.instanceMethod yX0_nextWay, Cond.selects RX0 yX0_nextWay yX0_nextWay, Cond.code yX0_nextWay cX0_nextWay 7 (some .int), Cond.methodLink RX0 190 yX0_isReadAs, Cond.instanceMethod yX0_isReadAs, Cond.selects RX0 yX0_isReadAs yX0_isReadAs, Cond.code yX0_isReadAs cX0_isReadAs 3 (some .boolean), Cond.methodLink RL 128 yX1_walk, Cond.instanceMethod yX1_walk, Cond.selects RX1 yX1_walk yX1_walk, Cond.code yX1_walk cX1_walk 4 (some .int), Cond.fieldLink RX1 109 "SignRailModel" "hasArrived" "Z", Cond.fieldLink RX1 103 "SignRailModel" "steps" "I", Cond.methodLink RX1 116 yX1_follows, Cond.instanceMethod yX1_follows, Cond.selects RX1 yX1_follows yX1_follows]
def wsL_law0_r17 : List Cond := [Cond.code yX1_follows cX1_follows 7 none, Cond.fieldLink RX1 106 "SignRailModel" "at" "I", Cond.methodLink RX1 113 yX1_takes, Cond.instanceMethod yX1_takes, Cond.selects RX1 yX1_takes yX1_takes, Cond.code yX1_takes cX1_takes 8 (some .int), Cond.methodLink RL 129 yL_walkBySteps, Cond.static yL_walkBySteps, Cond.codeWith yL_walkBySteps cL_walkBySteps 6 (some .int) [(0, 12, 15, 13), (0, 12, 19, 15)], Cond.methodLink RL 62 yX0_walkBySteps, Cond.instanceMethod yX0_walkBySteps, Cond.selects RX0 yX0_walkBySteps yX0_walkBySteps, Cond.code yX0_walkBySteps cX0_walkBySteps 4 (some .int), Cond.methodLink RL 131 yX1_walkBySteps, Cond.instanceMethod yX1_walkBySteps, Cond.selects RX1 yX1_walkBySteps yX1_walkBySteps, Cond.code yX1_walkBySteps cX1_walkBySteps 4 (some .int), Cond.methodLink RX1 120 yX1_walk, Cond.methodLink RL 132 yL_placeBehind, Cond.static yL_placeBehind, Cond.codeWith yL_placeBehind cL_placeBehind 7 (some .int) [(0, 14, 17, 13), (0, 14, 21, 15)], Cond.methodLink RL 65 yX0_placeBehind, Cond.instanceMethod yX0_placeBehind, Cond.selects RX0 yX0_placeBehind yX0_placeBehind]
def wsL_law0_r18 : List Cond := [Cond.code yX0_placeBehind cX0_placeBehind 5 (some .int), Cond.methodLink RX0 131 yX0_placeReached, Cond.instanceMethod yX0_placeReached, Cond.selects RX0 yX0_placeReached yX0_placeReached, Cond.code yX0_placeReached cX0_placeReached 8 (some .int), Cond.methodLink RL 135 yX1_placeBehind, Cond.instanceMethod yX1_placeBehind, Cond.selects RX1 yX1_placeBehind yX1_placeBehind, Cond.code yX1_placeBehind cX1_placeBehind 5 (some .int)]
def wsL_law0 : List Cond := (wsL_law0_r1 ++ (wsL_law0_r2 ++ (wsL_law0_r3 ++ (wsL_law0_r4 ++ (wsL_law0_r5 ++ (wsL_law0_r6 ++ (wsL_law0_r7 ++ (wsL_law0_r8 ++ (wsL_law0_r9 ++ (wsL_law0_r10 ++ (wsL_law0_r11 ++ (wsL_law0_r12 ++ (wsL_law0_r13 ++ (wsL_law0_r14 ++ (wsL_law0_r15 ++ (wsL_law0_r16 ++ (wsL_law0_r17 ++ wsL_law0_r18))))))))))))))))) ++ wsX00 ++ wsX10 ++ ([] : List Cond)
def wsL_law : List Cond := wsL_law0 ++ (vx_atS RX0 139 "java/lang/IndexOutOfBoundsException" ["java/lang/RuntimeException", "java/lang/Exception"]).filter goodWord ++ (vx_atS RX0 75 "java/lang/IllegalArgumentException" ["java/lang/RuntimeException", "java/lang/Exception"]).filter goodWord ++ (vx_atS RX0 109 "java/lang/IllegalStateException" ["java/lang/RuntimeException", "java/lang/Exception"]).filter goodWord
abbrev vwCl : List vw_C := [(RX0, TX0, 10), (RX1, TX1, 15)]
end
section
set_option maxRecDepth 20000 in
theorem wsL_law0_r1_in : ∀ w ∈ wsL_law0_r1, w ∈ lw_tbl := fun w h => (goodIn_p wsL_law0_r1 [40, 43] (by decide +kernel) (by decide +kernel) w h).1
set_option maxRecDepth 20000 in
theorem wsL_law0_r2_in : ∀ w ∈ wsL_law0_r2, w ∈ lw_tbl := fun w h => (goodIn_p wsL_law0_r2 [46, 418] (by decide +kernel) (by decide +kernel) w h).1
set_option maxRecDepth 20000 in
theorem wsL_law0_r3_in : ∀ w ∈ wsL_law0_r3, w ∈ lw_tbl := fun w h => (goodIn_p wsL_law0_r3 [91, 94, 165, 187, 168] (by decide +kernel) (by decide +kernel) w h).1
set_option maxRecDepth 20000 in
theorem wsL_law0_r4_in : ∀ w ∈ wsL_law0_r4, w ∈ lw_tbl := fun w h => (goodIn_p wsL_law0_r4 [191, 194, 197, 201, 204, 207] (by decide +kernel) (by decide +kernel) w h).1
set_option maxRecDepth 20000 in
theorem wsL_law0_r5_in : ∀ w ∈ wsL_law0_r5, w ∈ lw_tbl := fun w h => (goodIn_p wsL_law0_r5 [474, 477, 480, 484, 487, 470] (by decide +kernel) (by decide +kernel) w h).1
set_option maxRecDepth 20000 in
theorem wsL_law0_r6_in : ∀ w ∈ wsL_law0_r6, w ∈ lw_tbl := fun w h => (goodIn_p wsL_law0_r6 [217, 491, 224, 227, 230, 495] (by decide +kernel) (by decide +kernel) w h).1
set_option maxRecDepth 20000 in
theorem wsL_law0_r7_in : ∀ w ∈ wsL_law0_r7, w ∈ lw_tbl := fun w h => (goodIn_p wsL_law0_r7 [499, 237, 241, 503, 248] (by decide +kernel) (by decide +kernel) w h).1
set_option maxRecDepth 20000 in
theorem wsL_law0_r8_in : ∀ w ∈ wsL_law0_r8, w ∈ lw_tbl := fun w h => (goodIn_p wsL_law0_r8 [251, 254, 259, 507, 510, 513] (by decide +kernel) (by decide +kernel) w h).1
set_option maxRecDepth 20000 in
theorem wsL_law0_r9_in : ∀ w ∈ wsL_law0_r9, w ∈ lw_tbl := fun w h => (goodIn_p wsL_law0_r9 [266, 269, 274, 517, 520, 523] (by decide +kernel) (by decide +kernel) w h).1
end
section
set_option maxRecDepth 20000 in
theorem wsL_law0_r10_in : ∀ w ∈ wsL_law0_r10, w ∈ lw_tbl := fun w h => (goodIn_p wsL_law0_r10 [281, 285, 288, 291, 527, 531, 534] (by decide +kernel) (by decide +kernel) w h).1
set_option maxRecDepth 20000 in
theorem wsL_law0_r11_in : ∀ w ∈ wsL_law0_r11, w ∈ lw_tbl := fun w h => (goodIn_p wsL_law0_r11 [299, 304, 324, 538, 542] (by decide +kernel) (by decide +kernel) w h).1
set_option maxRecDepth 20000 in
theorem wsL_law0_r12_in : ∀ w ∈ wsL_law0_r12, w ∈ lw_tbl := fun w h => (goodIn_p wsL_law0_r12 [546, 331, 550, 338] (by decide +kernel) (by decide +kernel) w h).1
set_option maxRecDepth 20000 in
theorem wsL_law0_r13_in : ∀ w ∈ wsL_law0_r13, w ∈ lw_tbl := fun w h => (goodIn_p wsL_law0_r13 [342, 554, 558, 349, 353] (by decide +kernel) (by decide +kernel) w h).1
set_option maxRecDepth 20000 in
theorem wsL_law0_r14_in : ∀ w ∈ wsL_law0_r14, w ∈ lw_tbl := fun w h => (goodIn_p wsL_law0_r14 [562, 360, 364, 368, 372, 375] (by decide +kernel) (by decide +kernel) w h).1
set_option maxRecDepth 20000 in
theorem wsL_law0_r15_in : ∀ w ∈ wsL_law0_r15, w ∈ lw_tbl := fun w h => (goodIn_p wsL_law0_r15 [566, 570, 574, 82, 578] (by decide +kernel) (by decide +kernel) w h).1
set_option maxRecDepth 20000 in
theorem wsL_law0_r16_in : ∀ w ∈ wsL_law0_r16, w ∈ lw_tbl := fun w h => (goodIn_p wsL_law0_r16 [382, 386, 390, 394, 582] (by decide +kernel) (by decide +kernel) w h).1
set_option maxRecDepth 20000 in
theorem wsL_law0_r17_in : ∀ w ∈ wsL_law0_r17, w ∈ lw_tbl := fun w h => (goodIn_p wsL_law0_r17 [586, 590, 401, 594] (by decide +kernel) (by decide +kernel) w h).1
set_option maxRecDepth 20000 in
theorem wsL_law0_r18_in : ∀ w ∈ wsL_law0_r18, w ∈ lw_tbl := fun w h => (goodIn_p wsL_law0_r18 [408, 413, 599] (by decide +kernel) (by decide +kernel) w h).1
theorem wsL_law_R_in : ∀ w ∈ (wsL_law0_r1 ++ (wsL_law0_r2 ++ (wsL_law0_r3 ++ (wsL_law0_r4 ++ (wsL_law0_r5 ++ (wsL_law0_r6 ++ (wsL_law0_r7 ++ (wsL_law0_r8 ++ (wsL_law0_r9 ++ (wsL_law0_r10 ++ (wsL_law0_r11 ++ (wsL_law0_r12 ++ (wsL_law0_r13 ++ (wsL_law0_r14 ++ (wsL_law0_r15 ++ (wsL_law0_r16 ++ (wsL_law0_r17 ++ (wsL_law0_r18)))))))))))))))))), w ∈ lw_tbl := fun w h => (List.mem_append.mp h).elim (fun h => wsL_law0_r1_in w h) (fun h => (List.mem_append.mp h).elim (fun h => wsL_law0_r2_in w h) (fun h => (List.mem_append.mp h).elim (fun h => wsL_law0_r3_in w h) (fun h => (List.mem_append.mp h).elim (fun h => wsL_law0_r4_in w h) (fun h => (List.mem_append.mp h).elim (fun h => wsL_law0_r5_in w h) (fun h => (List.mem_append.mp h).elim (fun h => wsL_law0_r6_in w h) (fun h => (List.mem_append.mp h).elim (fun h => wsL_law0_r7_in w h) (fun h => (List.mem_append.mp h).elim (fun h => wsL_law0_r8_in w h) (fun h => (List.mem_append.mp h).elim (fun h => wsL_law0_r9_in w h) (fun h => (List.mem_append.mp h).elim (fun h => wsL_law0_r10_in w h) (fun h => (List.mem_append.mp h).elim (fun h => wsL_law0_r11_in w h) (fun h => (List.mem_append.mp h).elim (fun h => wsL_law0_r12_in w h) (fun h => (List.mem_append.mp h).elim (fun h => wsL_law0_r13_in w h) (fun h => (List.mem_append.mp h).elim (fun h => wsL_law0_r14_in w h) (fun h => (List.mem_append.mp h).elim (fun h => wsL_law0_r15_in w h) (fun h => (List.mem_append.mp h).elim (fun h => wsL_law0_r16_in w h) (fun h => (List.mem_append.mp h).elim (fun h => wsL_law0_r17_in w h) (fun h => wsL_law0_r18_in w h)))))))))))))))))
theorem wsX00_tb : ∀ w ∈ wsX00, w ∈ lw_tbl := by decide +kernel
theorem wsX10_tb : ∀ w ∈ wsX10, w ∈ lw_tbl := by decide +kernel
theorem wsL_law_in0 : ∀ w ∈ wsL_law0, w ∈ lw_tbl := fun w h => (List.mem_append.mp h).elim (fun h => (List.mem_append.mp h).elim (fun h => (List.mem_append.mp h).elim (fun h => wsL_law_R_in w h) (fun h => wsX00_tb w h)) (fun h => wsX10_tb w h)) (fun h => nomatch h)
theorem wsL_law_x0 : ∀ w ∈ (vx_atS RX0 139 "java/lang/IndexOutOfBoundsException" ["java/lang/RuntimeException", "java/lang/Exception"]).filter goodWord, w ∈ lw_tbl := by decide +kernel
theorem wsL_law_x1 : ∀ w ∈ (vx_atS RX0 75 "java/lang/IllegalArgumentException" ["java/lang/RuntimeException", "java/lang/Exception"]).filter goodWord, w ∈ lw_tbl := by decide +kernel
theorem wsL_law_x2 : ∀ w ∈ (vx_atS RX0 109 "java/lang/IllegalStateException" ["java/lang/RuntimeException", "java/lang/Exception"]).filter goodWord, w ∈ lw_tbl := by decide +kernel
theorem wsL_law_in : ∀ w ∈ wsL_law, w ∈ lw_tbl := fun w h => (List.mem_append.mp h).elim (fun h => (List.mem_append.mp h).elim (fun h => (List.mem_append.mp h).elim (fun h => wsL_law_in0 w h) (fun h => wsL_law_x0 w h)) (fun h => wsL_law_x1 w h)) (fun h => wsL_law_x2 w h)
theorem inlX0 : ∀ w ∈ wsX00, w ∈ wsL_law := fun _ h => List.mem_append_left _ (List.mem_append_left _ (List.mem_append_left _ (List.mem_append_left _ (List.mem_append_left _ (List.mem_append_right _ h)))))
theorem inX0 : ∀ w ∈ wsX00, w ∈ lw_tbl := fun w h => wsL_law_in w (inlX0 w h)
theorem inlX1 : ∀ w ∈ wsX10, w ∈ wsL_law := fun _ h => List.mem_append_left _ (List.mem_append_left _ (List.mem_append_left _ (List.mem_append_left _ (List.mem_append_right _ h))))
theorem inX1 : ∀ w ∈ wsX10, w ∈ lw_tbl := fun w h => wsL_law_in w (inlX1 w h)
theorem inJx145de : ∀ w ∈ wsJx145de0, w ∈ lw_tbl := by decide +kernel
theorem inJ6 : ∀ w ∈ wsJ60, w ∈ lw_tbl := by decide +kernel
theorem inJ9 : ∀ w ∈ wsJ90, w ∈ lw_tbl := by decide +kernel
theorem inJ0 : ∀ w ∈ wsJ00, w ∈ lw_tbl := by decide +kernel
theorem inJ7 : ∀ w ∈ wsJ70, w ∈ lw_tbl := by decide +kernel
end
section
set_option maxRecDepth 20000 in
theorem ggX0_init_J7_fill_53178 : GoodIn wsX0_init wsJ7_fill_53178 := goodIn_r _ [18] (by decide +kernel) (by decide +kernel)
set_option maxRecDepth 20000 in
theorem gX0_init_J7_fill_53178 : GoodIn wsX0_init (va_wsS RX0 42 yJ7_fill_53178 wsJ7_fill_53178) := goodIn_app (goodIn_of _ (by decide +kernel)) ggX0_init_J7_fill_53178
theorem dX0_init_0 : decode cX0_init 0 = .ok (.aload_n 0, 1) := by decide +kernel
theorem dX0_init_1 : decode cX0_init 1 = .ok (.invokespecial 3, 3) := by decide +kernel
theorem dX0_init_4 : decode cX0_init 4 = .ok (.aload_n 0, 1) := by decide +kernel
theorem dX0_init_5 : decode cX0_init 5 = .ok (.bipush 8, 2) := by decide +kernel
theorem dX0_init_7 : decode cX0_init 7 = .ok (.newarray .int, 2) := by decide +kernel
theorem dX0_init_9 : decode cX0_init 9 = .ok (.putfield 9, 3) := by decide +kernel
theorem dX0_init_12 : decode cX0_init 12 = .ok (.aload_n 0, 1) := by decide +kernel
theorem dX0_init_13 : decode cX0_init 13 = .ok (.bipush 64, 2) := by decide +kernel
theorem dX0_init_15 : decode cX0_init 15 = .ok (.newarray .int, 2) := by decide +kernel
theorem dX0_init_17 : decode cX0_init 17 = .ok (.putfield 13, 3) := by decide +kernel
theorem dX0_init_20 : decode cX0_init 20 = .ok (.aload_n 0, 1) := by decide +kernel
theorem dX0_init_21 : decode cX0_init 21 = .ok (.bipush 32, 2) := by decide +kernel
theorem dX0_init_23 : decode cX0_init 23 = .ok (.newarray .int, 2) := by decide +kernel
theorem dX0_init_25 : decode cX0_init 25 = .ok (.putfield 16, 3) := by decide +kernel
theorem dX0_init_28 : decode cX0_init 28 = .ok (.aload_n 0, 1) := by decide +kernel
theorem dX0_init_29 : decode cX0_init 29 = .ok (.bipush 8, 2) := by decide +kernel
theorem dX0_init_31 : decode cX0_init 31 = .ok (.newarray .int, 2) := by decide +kernel
theorem dX0_init_33 : decode cX0_init 33 = .ok (.putfield 19, 3) := by decide +kernel
theorem dX0_init_36 : decode cX0_init 36 = .ok (.aload_n 0, 1) := by decide +kernel
theorem dX0_init_37 : decode cX0_init 37 = .ok (.bipush 32, 2) := by decide +kernel
theorem dX0_init_39 : decode cX0_init 39 = .ok (.newarray .int, 2) := by decide +kernel
theorem dX0_init_41 : decode cX0_init 41 = .ok (.putfield 22, 3) := by decide +kernel
theorem dX0_init_44 : decode cX0_init 44 = .ok (.aload_n 0, 1) := by decide +kernel
theorem dX0_init_45 : decode cX0_init 45 = .ok (.bipush 32, 2) := by decide +kernel
theorem dX0_init_47 : decode cX0_init 47 = .ok (.newarray .int, 2) := by decide +kernel
theorem dX0_init_49 : decode cX0_init 49 = .ok (.putfield 25, 3) := by decide +kernel
theorem dX0_init_52 : decode cX0_init 52 = .ok (.aload_n 0, 1) := by decide +kernel
theorem dX0_init_53 : decode cX0_init 53 = .ok (.sipush 160, 3) := by decide +kernel
theorem dX0_init_56 : decode cX0_init 56 = .ok (.newarray .int, 2) := by decide +kernel
theorem dX0_init_58 : decode cX0_init 58 = .ok (.putfield 28, 3) := by decide +kernel
theorem dX0_init_61 : decode cX0_init 61 = .ok (.aload_n 0, 1) := by decide +kernel
theorem dX0_init_62 : decode cX0_init 62 = .ok (.lconst 0, 1) := by decide +kernel
theorem dX0_init_63 : decode cX0_init 63 = .ok (.putfield 31, 3) := by decide +kernel
theorem dX0_init_66 : decode cX0_init 66 = .ok (.aload_n 0, 1) := by decide +kernel
theorem dX0_init_67 : decode cX0_init 67 = .ok (.iconst 0, 1) := by decide +kernel
theorem dX0_init_68 : decode cX0_init 68 = .ok (.putfield 35, 3) := by decide +kernel
theorem dX0_init_71 : decode cX0_init 71 = .ok (.aload_n 0, 1) := by decide +kernel
theorem dX0_init_72 : decode cX0_init 72 = .ok (.bipush 8, 2) := by decide +kernel
theorem dX0_init_74 : decode cX0_init 74 = .ok (.newarray .int, 2) := by decide +kernel
theorem dX0_init_76 : decode cX0_init 76 = .ok (.putfield 39, 3) := by decide +kernel
theorem dX0_init_79 : decode cX0_init 79 = .ok (.aload_n 0, 1) := by decide +kernel
theorem dX0_init_80 : decode cX0_init 80 = .ok (.getfield 13, 3) := by decide +kernel
theorem dX0_init_83 : decode cX0_init 83 = .ok (.iconst 1, 1) := by decide +kernel
theorem dX0_init_84 : decode cX0_init 84 = .ok (.invokestatic 42, 3) := by decide +kernel
theorem dX0_init_87 : decode cX0_init 87 = .ok (.aload_n 0, 1) := by decide +kernel
theorem dX0_init_88 : decode cX0_init 88 = .ok (.getfield 16, 3) := by decide +kernel
theorem dX0_init_91 : decode cX0_init 91 = .ok (.iconst (-1), 1) := by decide +kernel
theorem dX0_init_92 : decode cX0_init 92 = .ok (.invokestatic 42, 3) := by decide +kernel
theorem dX0_init_95 : decode cX0_init 95 = .ok (.return_, 1) := by decide +kernel
set_option maxRecDepth 20000 in
theorem ggX0_stroke_X0_requireGlyph : GoodIn wsX0_stroke wsX0_requireGlyph := goodIn_ca (goodIn_r _ [5, 6, 7] (by decide +kernel) (by decide +kernel)) (goodIn_sub (fun _ h => List.mem_cons_of_mem _ (List.mem_append_left _ (List.mem_append_right _ h))) (by decide +kernel))
set_option maxRecDepth 20000 in
theorem gX0_stroke_X0_requireGlyph : GoodIn wsX0_stroke (va_wsS RX0 48 yX0_requireGlyph wsX0_requireGlyph) := goodIn_app (goodIn_of _ (by decide +kernel)) ggX0_stroke_X0_requireGlyph
set_option maxRecDepth 20000 in
theorem ggX0_stroke_X0_requireLine : GoodIn wsX0_stroke wsX0_requireLine := goodIn_ca (goodIn_r _ [10, 11, 12, 13, 14, 15, 16, 17, 18, 4, 19] (by decide +kernel) (by decide +kernel)) (goodIn_sub (fun _ h => List.mem_cons_of_mem _ (List.mem_append_right _ h)) (by decide +kernel))
set_option maxRecDepth 20000 in
theorem gX0_stroke_X0_requireLine : GoodIn wsX0_stroke (va_wsS RX0 52 yX0_requireLine wsX0_requireLine) := goodIn_app (goodIn_of _ (by decide +kernel)) ggX0_stroke_X0_requireLine
set_option maxRecDepth 20000 in
theorem ggX0_stroke_X0_lineCells : GoodIn wsX0_stroke wsX0_lineCells := goodIn_r _ [22, 13, 14, 15, 16, 23, 24, 25, 26, 27, 4, 28] (by decide +kernel) (by decide +kernel)
set_option maxRecDepth 20000 in
theorem gX0_stroke_X0_lineCells : GoodIn wsX0_stroke (va_wsS RX0 56 yX0_lineCells wsX0_lineCells) := goodIn_app (goodIn_of _ (by decide +kernel)) ggX0_stroke_X0_lineCells
set_option maxRecDepth 20000 in
theorem ggX0_stroke_X0_forgetWalks : GoodIn wsX0_stroke wsX0_forgetWalks := goodIn_r _ [32, 33, 44, 45, 46, 47, 48, 49, 50, 51, 52, 53] (by decide +kernel) (by decide +kernel)
set_option maxRecDepth 20000 in
theorem gX0_stroke_X0_forgetWalks : GoodIn wsX0_stroke (wsV RX0 60 RX0 yX0_forgetWalks wsX0_forgetWalks) := goodIn_app (goodIn_of _ (by decide +kernel)) ggX0_stroke_X0_forgetWalks
set_option maxRecDepth 20000 in
theorem ggX0_stroke_X0_differing : GoodIn wsX0_stroke wsX0_differing := goodIn_r _ [36, 37, 38, 39, 40, 41, 42, 43] (by decide +kernel) (by decide +kernel)
set_option maxRecDepth 20000 in
theorem gX0_stroke_X0_differing : GoodIn wsX0_stroke (va_wsS RX0 63 yX0_differing wsX0_differing) := goodIn_app (goodIn_of _ (by decide +kernel)) ggX0_stroke_X0_differing
theorem dX0_stroke_0 : decode cX0_stroke 0 = .ok (.iload_n 1, 1) := by decide +kernel
theorem dX0_stroke_1 : decode cX0_stroke 1 = .ok (.invokestatic 48, 3) := by decide +kernel
theorem dX0_stroke_4 : decode cX0_stroke 4 = .ok (.iload_n 2, 1) := by decide +kernel
theorem dX0_stroke_5 : decode cX0_stroke 5 = .ok (.iload_n 3, 1) := by decide +kernel
theorem dX0_stroke_6 : decode cX0_stroke 6 = .ok (.iload 4, 2) := by decide +kernel
theorem dX0_stroke_8 : decode cX0_stroke 8 = .ok (.iload 5, 2) := by decide +kernel
theorem dX0_stroke_10 : decode cX0_stroke 10 = .ok (.invokestatic 52, 3) := by decide +kernel
theorem dX0_stroke_13 : decode cX0_stroke 13 = .ok (.iload_n 2, 1) := by decide +kernel
theorem dX0_stroke_14 : decode cX0_stroke 14 = .ok (.iload_n 3, 1) := by decide +kernel
theorem dX0_stroke_15 : decode cX0_stroke 15 = .ok (.iload 4, 2) := by decide +kernel
theorem dX0_stroke_17 : decode cX0_stroke 17 = .ok (.iload 5, 2) := by decide +kernel
theorem dX0_stroke_19 : decode cX0_stroke 19 = .ok (.invokestatic 56, 3) := by decide +kernel
theorem dX0_stroke_22 : decode cX0_stroke 22 = .ok (.istore 7, 2) := by decide +kernel
theorem dX0_stroke_24 : decode cX0_stroke 24 = .ok (.aload_n 0, 1) := by decide +kernel
theorem dX0_stroke_25 : decode cX0_stroke 25 = .ok (.getfield 9, 3) := by decide +kernel
theorem dX0_stroke_28 : decode cX0_stroke 28 = .ok (.iload_n 1, 1) := by decide +kernel
theorem dX0_stroke_29 : decode cX0_stroke 29 = .ok (.iaload, 1) := by decide +kernel
theorem dX0_stroke_30 : decode cX0_stroke 30 = .ok (.istore 8, 2) := by decide +kernel
theorem dX0_stroke_32 : decode cX0_stroke 32 = .ok (.iload 6, 2) := by decide +kernel
theorem dX0_stroke_34 : decode cX0_stroke 34 = .ok (.ifCond .eq 11, 3) := by decide +kernel
theorem dX0_stroke_37 : decode cX0_stroke 37 = .ok (.iload 8, 2) := by decide +kernel
theorem dX0_stroke_39 : decode cX0_stroke 39 = .ok (.iload 7, 2) := by decide +kernel
theorem dX0_stroke_41 : decode cX0_stroke 41 = .ok (.ior, 1) := by decide +kernel
theorem dX0_stroke_42 : decode cX0_stroke 42 = .ok (.goto 10, 3) := by decide +kernel
theorem dX0_stroke_45 : decode cX0_stroke 45 = .ok (.iload 8, 2) := by decide +kernel
theorem dX0_stroke_47 : decode cX0_stroke 47 = .ok (.iload 7, 2) := by decide +kernel
theorem dX0_stroke_49 : decode cX0_stroke 49 = .ok (.iconst (-1), 1) := by decide +kernel
theorem dX0_stroke_50 : decode cX0_stroke 50 = .ok (.ixor, 1) := by decide +kernel
theorem dX0_stroke_51 : decode cX0_stroke 51 = .ok (.iand, 1) := by decide +kernel
theorem dX0_stroke_52 : decode cX0_stroke 52 = .ok (.istore 9, 2) := by decide +kernel
theorem dX0_stroke_54 : decode cX0_stroke 54 = .ok (.aload_n 0, 1) := by decide +kernel
theorem dX0_stroke_55 : decode cX0_stroke 55 = .ok (.getfield 9, 3) := by decide +kernel
theorem dX0_stroke_58 : decode cX0_stroke 58 = .ok (.iload_n 1, 1) := by decide +kernel
theorem dX0_stroke_59 : decode cX0_stroke 59 = .ok (.iload 9, 2) := by decide +kernel
theorem dX0_stroke_61 : decode cX0_stroke 61 = .ok (.iastore, 1) := by decide +kernel
theorem dX0_stroke_62 : decode cX0_stroke 62 = .ok (.aload_n 0, 1) := by decide +kernel
theorem dX0_stroke_63 : decode cX0_stroke 63 = .ok (.invokevirtual 60, 3) := by decide +kernel
theorem dX0_stroke_66 : decode cX0_stroke 66 = .ok (.iload 8, 2) := by decide +kernel
theorem dX0_stroke_68 : decode cX0_stroke 68 = .ok (.iload 9, 2) := by decide +kernel
theorem dX0_stroke_70 : decode cX0_stroke 70 = .ok (.invokestatic 63, 3) := by decide +kernel
theorem dX0_stroke_73 : decode cX0_stroke 73 = .ok (.ireturn, 1) := by decide +kernel
set_option maxRecDepth 20000 in
theorem ggX0_difference_X0_requireGlyph : GoodIn wsX0_difference wsX0_requireGlyph := goodIn_ca (goodIn_r _ [5, 6, 7] (by decide +kernel) (by decide +kernel)) (goodIn_sub (fun _ h => List.mem_cons_of_mem _ (List.mem_append_right _ h)) (by decide +kernel))
set_option maxRecDepth 20000 in
theorem gX0_difference_X0_requireGlyph : GoodIn wsX0_difference (va_wsS RX0 48 yX0_requireGlyph wsX0_requireGlyph) := goodIn_app (goodIn_of _ (by decide +kernel)) ggX0_difference_X0_requireGlyph
set_option maxRecDepth 20000 in
theorem ggX0_difference_X0_differing : GoodIn wsX0_difference wsX0_differing := goodIn_r _ [10, 11, 12, 13, 14, 15, 16, 17] (by decide +kernel) (by decide +kernel)
set_option maxRecDepth 20000 in
theorem gX0_difference_X0_differing : GoodIn wsX0_difference (va_wsS RX0 63 yX0_differing wsX0_differing) := goodIn_app (goodIn_of _ (by decide +kernel)) ggX0_difference_X0_differing
theorem dX0_difference_0 : decode cX0_difference 0 = .ok (.iload_n 1, 1) := by decide +kernel
theorem dX0_difference_1 : decode cX0_difference 1 = .ok (.invokestatic 48, 3) := by decide +kernel
theorem dX0_difference_4 : decode cX0_difference 4 = .ok (.iload_n 2, 1) := by decide +kernel
theorem dX0_difference_5 : decode cX0_difference 5 = .ok (.invokestatic 48, 3) := by decide +kernel
theorem dX0_difference_8 : decode cX0_difference 8 = .ok (.aload_n 0, 1) := by decide +kernel
theorem dX0_difference_9 : decode cX0_difference 9 = .ok (.getfield 9, 3) := by decide +kernel
theorem dX0_difference_12 : decode cX0_difference 12 = .ok (.iload_n 1, 1) := by decide +kernel
theorem dX0_difference_13 : decode cX0_difference 13 = .ok (.iaload, 1) := by decide +kernel
theorem dX0_difference_14 : decode cX0_difference 14 = .ok (.aload_n 0, 1) := by decide +kernel
theorem dX0_difference_15 : decode cX0_difference 15 = .ok (.getfield 9, 3) := by decide +kernel
theorem dX0_difference_18 : decode cX0_difference 18 = .ok (.iload_n 2, 1) := by decide +kernel
theorem dX0_difference_19 : decode cX0_difference 19 = .ok (.iaload, 1) := by decide +kernel
theorem dX0_difference_20 : decode cX0_difference 20 = .ok (.invokestatic 63, 3) := by decide +kernel
theorem dX0_difference_23 : decode cX0_difference 23 = .ok (.ireturn, 1) := by decide +kernel
set_option maxRecDepth 20000 in
theorem ggX0_width_X0_requireGlyph : GoodIn wsX0_width wsX0_requireGlyph := goodIn_ca (goodIn_r _ [5, 6, 7] (by decide +kernel) (by decide +kernel)) (goodIn_sub (fun _ h => List.mem_cons_of_mem _ (List.mem_append_right _ h)) (by decide +kernel))
set_option maxRecDepth 20000 in
theorem gX0_width_X0_requireGlyph : GoodIn wsX0_width (va_wsS RX0 48 yX0_requireGlyph wsX0_requireGlyph) := goodIn_app (goodIn_of _ (by decide +kernel)) ggX0_width_X0_requireGlyph
set_option maxRecDepth 20000 in
theorem ggX0_width_X0_shapeWidth : GoodIn wsX0_width wsX0_shapeWidth := goodIn_r _ [10, 11, 12, 4, 13, 14, 15, 16, 17, 18, 19, 20, 21, 22, 23, 24, 25, 26] (by decide +kernel) (by decide +kernel)
set_option maxRecDepth 20000 in
theorem gX0_width_X0_shapeWidth : GoodIn wsX0_width (va_wsS RX0 67 yX0_shapeWidth wsX0_shapeWidth) := goodIn_app (goodIn_of _ (by decide +kernel)) ggX0_width_X0_shapeWidth
theorem dX0_width_0 : decode cX0_width 0 = .ok (.iload_n 1, 1) := by decide +kernel
theorem dX0_width_1 : decode cX0_width 1 = .ok (.invokestatic 48, 3) := by decide +kernel
theorem dX0_width_4 : decode cX0_width 4 = .ok (.aload_n 0, 1) := by decide +kernel
theorem dX0_width_5 : decode cX0_width 5 = .ok (.getfield 9, 3) := by decide +kernel
theorem dX0_width_8 : decode cX0_width 8 = .ok (.iload_n 1, 1) := by decide +kernel
theorem dX0_width_9 : decode cX0_width 9 = .ok (.iaload, 1) := by decide +kernel
theorem dX0_width_10 : decode cX0_width 10 = .ok (.invokestatic 67, 3) := by decide +kernel
theorem dX0_width_13 : decode cX0_width 13 = .ok (.ireturn, 1) := by decide +kernel
set_option maxRecDepth 20000 in
theorem ggX0_space_X0_requireGlyph : GoodIn wsX0_space wsX0_requireGlyph := goodIn_ca (goodIn_r _ [7, 8, 9] (by decide +kernel) (by decide +kernel)) (goodIn_sub (fun _ h => List.mem_cons_of_mem _ (List.mem_append_right _ h)) (by decide +kernel))
set_option maxRecDepth 20000 in
theorem gX0_space_X0_requireGlyph : GoodIn wsX0_space (va_wsS RX0 48 yX0_requireGlyph wsX0_requireGlyph) := goodIn_app (goodIn_of _ (by decide +kernel)) ggX0_space_X0_requireGlyph
set_option maxRecDepth 20000 in
theorem ggX0_space_X0_pairOf : GoodIn wsX0_space wsX0_pairOf := goodIn_r _ [12] (by decide +kernel) (by decide +kernel)
set_option maxRecDepth 20000 in
theorem gX0_space_X0_pairOf : GoodIn wsX0_space (va_wsS RX0 78 yX0_pairOf wsX0_pairOf) := goodIn_app (goodIn_of _ (by decide +kernel)) ggX0_space_X0_pairOf
theorem dX0_space_0 : decode cX0_space 0 = .ok (.iload_n 1, 1) := by decide +kernel
theorem dX0_space_1 : decode cX0_space 1 = .ok (.invokestatic 48, 3) := by decide +kernel
theorem dX0_space_4 : decode cX0_space 4 = .ok (.iload_n 2, 1) := by decide +kernel
theorem dX0_space_5 : decode cX0_space 5 = .ok (.invokestatic 48, 3) := by decide +kernel
theorem dX0_space_8 : decode cX0_space 8 = .ok (.iload_n 3, 1) := by decide +kernel
theorem dX0_space_9 : decode cX0_space 9 = .ok (.iconst (-1), 1) := by decide +kernel
theorem dX0_space_10 : decode cX0_space 10 = .ok (.if_icmp .lt 8, 3) := by decide +kernel
theorem dX0_space_13 : decode cX0_space 13 = .ok (.iload_n 3, 1) := by decide +kernel
theorem dX0_space_14 : decode cX0_space 14 = .ok (.iconst 3, 1) := by decide +kernel
theorem dX0_space_15 : decode cX0_space 15 = .ok (.if_icmp .le 13, 3) := by decide +kernel
theorem dX0_space_18 : decode cX0_space 18 = .ok (.new 71, 3) := by decide +kernel
theorem dX0_space_21 : decode cX0_space 21 = .ok (.dup, 1) := by decide +kernel
theorem dX0_space_22 : decode cX0_space 22 = .ok (.ldc 73, 2) := by decide +kernel
theorem dX0_space_24 : decode cX0_space 24 = .ok (.invokespecial 75, 3) := by decide +kernel
theorem dX0_space_27 : decode cX0_space 27 = .ok (.athrow, 1) := by decide +kernel
theorem dX0_space_28 : decode cX0_space 28 = .ok (.iload_n 1, 1) := by decide +kernel
theorem dX0_space_29 : decode cX0_space 29 = .ok (.iload_n 2, 1) := by decide +kernel
theorem dX0_space_30 : decode cX0_space 30 = .ok (.invokestatic 78, 3) := by decide +kernel
theorem dX0_space_33 : decode cX0_space 33 = .ok (.istore 4, 2) := by decide +kernel
theorem dX0_space_35 : decode cX0_space 35 = .ok (.aload_n 0, 1) := by decide +kernel
theorem dX0_space_36 : decode cX0_space 36 = .ok (.getfield 13, 3) := by decide +kernel
theorem dX0_space_39 : decode cX0_space 39 = .ok (.iload 4, 2) := by decide +kernel
theorem dX0_space_41 : decode cX0_space 41 = .ok (.iaload, 1) := by decide +kernel
theorem dX0_space_42 : decode cX0_space 42 = .ok (.istore 5, 2) := by decide +kernel
theorem dX0_space_44 : decode cX0_space 44 = .ok (.aload_n 0, 1) := by decide +kernel
theorem dX0_space_45 : decode cX0_space 45 = .ok (.getfield 13, 3) := by decide +kernel
theorem dX0_space_48 : decode cX0_space 48 = .ok (.iload 4, 2) := by decide +kernel
theorem dX0_space_50 : decode cX0_space 50 = .ok (.iload_n 3, 1) := by decide +kernel
theorem dX0_space_51 : decode cX0_space 51 = .ok (.iastore, 1) := by decide +kernel
theorem dX0_space_52 : decode cX0_space 52 = .ok (.iload 5, 2) := by decide +kernel
theorem dX0_space_54 : decode cX0_space 54 = .ok (.ireturn, 1) := by decide +kernel
set_option maxRecDepth 20000 in
theorem ggX0_lead_X0_requireExit : GoodIn wsX0_lead wsX0_requireExit := goodIn_ca (goodIn_r _ [5, 6, 7, 8, 9, 4, 10] (by decide +kernel) (by decide +kernel)) (goodIn_sub (fun _ h => List.mem_cons_of_mem _ (List.mem_append_right _ h)) (by decide +kernel))
set_option maxRecDepth 20000 in
theorem gX0_lead_X0_requireExit : GoodIn wsX0_lead (va_wsS RX0 81 yX0_requireExit wsX0_requireExit) := goodIn_app (goodIn_of _ (by decide +kernel)) ggX0_lead_X0_requireExit
set_option maxRecDepth 20000 in
theorem ggX0_lead_X0_requirePlace : GoodIn wsX0_lead wsX0_requirePlace := goodIn_ca (goodIn_r _ [10, 6, 7] (by decide +kernel) (by decide +kernel)) (goodIn_sub (fun _ h => List.mem_cons_of_mem _ (List.mem_append_right _ h)) (by decide +kernel))
set_option maxRecDepth 20000 in
theorem gX0_lead_X0_requirePlace : GoodIn wsX0_lead (va_wsS RX0 85 yX0_requirePlace wsX0_requirePlace) := goodIn_app (goodIn_of _ (by decide +kernel)) ggX0_lead_X0_requirePlace
set_option maxRecDepth 20000 in
theorem ggX0_lead_X0_wayOf : GoodIn wsX0_lead wsX0_wayOf := goodIn_r _ [13] (by decide +kernel) (by decide +kernel)
set_option maxRecDepth 20000 in
theorem gX0_lead_X0_wayOf : GoodIn wsX0_lead (va_wsS RX0 88 yX0_wayOf wsX0_wayOf) := goodIn_app (goodIn_of _ (by decide +kernel)) ggX0_lead_X0_wayOf
set_option maxRecDepth 20000 in
theorem ggX0_lead_X0_forgetWalks : GoodIn wsX0_lead wsX0_forgetWalks := goodIn_r _ [17, 18, 19, 20, 21, 22, 23, 24, 25, 26, 27, 28] (by decide +kernel) (by decide +kernel)
set_option maxRecDepth 20000 in
theorem gX0_lead_X0_forgetWalks : GoodIn wsX0_lead (wsV RX0 60 RX0 yX0_forgetWalks wsX0_forgetWalks) := goodIn_app (goodIn_of _ (by decide +kernel)) ggX0_lead_X0_forgetWalks
theorem dX0_lead_0 : decode cX0_lead 0 = .ok (.iload_n 1, 1) := by decide +kernel
theorem dX0_lead_1 : decode cX0_lead 1 = .ok (.iload_n 2, 1) := by decide +kernel
theorem dX0_lead_2 : decode cX0_lead 2 = .ok (.invokestatic 81, 3) := by decide +kernel
theorem dX0_lead_5 : decode cX0_lead 5 = .ok (.iload_n 3, 1) := by decide +kernel
theorem dX0_lead_6 : decode cX0_lead 6 = .ok (.iconst (-1), 1) := by decide +kernel
theorem dX0_lead_7 : decode cX0_lead 7 = .ok (.if_icmp .eq 7, 3) := by decide +kernel
theorem dX0_lead_10 : decode cX0_lead 10 = .ok (.iload_n 3, 1) := by decide +kernel
theorem dX0_lead_11 : decode cX0_lead 11 = .ok (.invokestatic 85, 3) := by decide +kernel
theorem dX0_lead_14 : decode cX0_lead 14 = .ok (.iload_n 1, 1) := by decide +kernel
theorem dX0_lead_15 : decode cX0_lead 15 = .ok (.iload_n 2, 1) := by decide +kernel
theorem dX0_lead_16 : decode cX0_lead 16 = .ok (.invokestatic 88, 3) := by decide +kernel
theorem dX0_lead_19 : decode cX0_lead 19 = .ok (.istore 4, 2) := by decide +kernel
theorem dX0_lead_21 : decode cX0_lead 21 = .ok (.aload_n 0, 1) := by decide +kernel
theorem dX0_lead_22 : decode cX0_lead 22 = .ok (.getfield 16, 3) := by decide +kernel
theorem dX0_lead_25 : decode cX0_lead 25 = .ok (.iload 4, 2) := by decide +kernel
theorem dX0_lead_27 : decode cX0_lead 27 = .ok (.iaload, 1) := by decide +kernel
theorem dX0_lead_28 : decode cX0_lead 28 = .ok (.istore 5, 2) := by decide +kernel
theorem dX0_lead_30 : decode cX0_lead 30 = .ok (.aload_n 0, 1) := by decide +kernel
theorem dX0_lead_31 : decode cX0_lead 31 = .ok (.getfield 16, 3) := by decide +kernel
theorem dX0_lead_34 : decode cX0_lead 34 = .ok (.iload 4, 2) := by decide +kernel
theorem dX0_lead_36 : decode cX0_lead 36 = .ok (.iload_n 3, 1) := by decide +kernel
theorem dX0_lead_37 : decode cX0_lead 37 = .ok (.iastore, 1) := by decide +kernel
theorem dX0_lead_38 : decode cX0_lead 38 = .ok (.aload_n 0, 1) := by decide +kernel
theorem dX0_lead_39 : decode cX0_lead 39 = .ok (.invokevirtual 60, 3) := by decide +kernel
theorem dX0_lead_42 : decode cX0_lead 42 = .ok (.iload 5, 2) := by decide +kernel
theorem dX0_lead_44 : decode cX0_lead 44 = .ok (.ireturn, 1) := by decide +kernel
set_option maxRecDepth 20000 in
theorem ggX0_name_X0_requirePlace : GoodIn wsX0_name wsX0_requirePlace := goodIn_ca (goodIn_r _ [5, 6, 7] (by decide +kernel) (by decide +kernel)) (goodIn_sub (fun _ h => List.mem_cons_of_mem _ (List.mem_append_left _ (List.mem_append_right _ h))) (by decide +kernel))
set_option maxRecDepth 20000 in
theorem gX0_name_X0_requirePlace : GoodIn wsX0_name (va_wsS RX0 85 yX0_requirePlace wsX0_requirePlace) := goodIn_app (goodIn_of _ (by decide +kernel)) ggX0_name_X0_requirePlace
set_option maxRecDepth 20000 in
theorem ggX0_name_X0_requireText : GoodIn wsX0_name wsX0_requireText := goodIn_ca (goodIn_r _ [10, 11, 12] (by decide +kernel) (by decide +kernel)) (goodIn_sub (fun _ h => List.mem_cons_of_mem _ (List.mem_append_right _ h)) (by decide +kernel))
set_option maxRecDepth 20000 in
theorem gX0_name_X0_requireText : GoodIn wsX0_name (va_wsS RX0 91 yX0_requireText wsX0_requireText) := goodIn_app (goodIn_of _ (by decide +kernel)) ggX0_name_X0_requireText
set_option maxRecDepth 20000 in
theorem ggX0_name_X0_pack : GoodIn wsX0_name wsX0_pack := goodIn_r _ [15] (by decide +kernel) (by decide +kernel)
set_option maxRecDepth 20000 in
theorem gX0_name_X0_pack : GoodIn wsX0_name (va_wsS RX0 94 yX0_pack wsX0_pack) := goodIn_app (goodIn_of _ (by decide +kernel)) ggX0_name_X0_pack
set_option maxRecDepth 20000 in
theorem ggX0_name_X0_forgetWalks : GoodIn wsX0_name wsX0_forgetWalks := goodIn_r _ [19, 20, 21, 22, 23, 24, 25, 26, 27, 28, 29, 30] (by decide +kernel) (by decide +kernel)
set_option maxRecDepth 20000 in
theorem gX0_name_X0_forgetWalks : GoodIn wsX0_name (wsV RX0 60 RX0 yX0_forgetWalks wsX0_forgetWalks) := goodIn_app (goodIn_of _ (by decide +kernel)) ggX0_name_X0_forgetWalks
theorem dX0_name_0 : decode cX0_name 0 = .ok (.iload_n 1, 1) := by decide +kernel
theorem dX0_name_1 : decode cX0_name 1 = .ok (.invokestatic 85, 3) := by decide +kernel
theorem dX0_name_4 : decode cX0_name 4 = .ok (.iload_n 2, 1) := by decide +kernel
theorem dX0_name_5 : decode cX0_name 5 = .ok (.iload_n 3, 1) := by decide +kernel
theorem dX0_name_6 : decode cX0_name 6 = .ok (.invokestatic 91, 3) := by decide +kernel
theorem dX0_name_9 : decode cX0_name 9 = .ok (.aload_n 0, 1) := by decide +kernel
theorem dX0_name_10 : decode cX0_name 10 = .ok (.getfield 19, 3) := by decide +kernel
theorem dX0_name_13 : decode cX0_name 13 = .ok (.iload_n 1, 1) := by decide +kernel
theorem dX0_name_14 : decode cX0_name 14 = .ok (.iload_n 2, 1) := by decide +kernel
theorem dX0_name_15 : decode cX0_name 15 = .ok (.iload_n 3, 1) := by decide +kernel
theorem dX0_name_16 : decode cX0_name 16 = .ok (.invokestatic 94, 3) := by decide +kernel
theorem dX0_name_19 : decode cX0_name 19 = .ok (.iastore, 1) := by decide +kernel
theorem dX0_name_20 : decode cX0_name 20 = .ok (.aload_n 0, 1) := by decide +kernel
theorem dX0_name_21 : decode cX0_name 21 = .ok (.invokevirtual 60, 3) := by decide +kernel
theorem dX0_name_24 : decode cX0_name 24 = .ok (.return_, 1) := by decide +kernel
set_option maxRecDepth 20000 in
theorem ggX0_textWidth_X0_requireText : GoodIn wsX0_textWidth wsX0_requireText := goodIn_ca (goodIn_r _ [4, 5, 6] (by decide +kernel) (by decide +kernel)) (goodIn_sub (fun _ h => List.mem_cons_of_mem _ (List.mem_append_right _ h)) (by decide +kernel))
set_option maxRecDepth 20000 in
theorem gX0_textWidth_X0_requireText : GoodIn wsX0_textWidth (va_wsS RX0 91 yX0_requireText wsX0_requireText) := goodIn_app (goodIn_of _ (by decide +kernel)) ggX0_textWidth_X0_requireText
set_option maxRecDepth 20000 in
theorem ggX0_textWidth_X0_pack : GoodIn wsX0_textWidth wsX0_pack := goodIn_r _ [9] (by decide +kernel) (by decide +kernel)
set_option maxRecDepth 20000 in
theorem gX0_textWidth_X0_pack : GoodIn wsX0_textWidth (va_wsS RX0 94 yX0_pack wsX0_pack) := goodIn_app (goodIn_of _ (by decide +kernel)) ggX0_textWidth_X0_pack
set_option maxRecDepth 20000 in
theorem ggX0_textWidth_X0_packedWidth : GoodIn wsX0_textWidth wsX0_packedWidth := goodIn_r _ [13, 14, 15, 16, 17, 3, 18, 19, 20, 21, 22, 23, 24, 25, 26, 27, 28, 29, 30, 31, 32, 33, 34, 35, 36, 37, 38, 39, 40, 41, 42, 43, 44, 45, 46, 47, 48, 49, 50, 51, 52, 53] (by decide +kernel) (by decide +kernel)
set_option maxRecDepth 20000 in
theorem gX0_textWidth_X0_packedWidth : GoodIn wsX0_textWidth (wsV RX0 97 RX0 yX0_packedWidth wsX0_packedWidth) := goodIn_app (goodIn_of _ (by decide +kernel)) ggX0_textWidth_X0_packedWidth
theorem dX0_textWidth_0 : decode cX0_textWidth 0 = .ok (.iload_n 1, 1) := by decide +kernel
theorem dX0_textWidth_1 : decode cX0_textWidth 1 = .ok (.iload_n 2, 1) := by decide +kernel
theorem dX0_textWidth_2 : decode cX0_textWidth 2 = .ok (.invokestatic 91, 3) := by decide +kernel
theorem dX0_textWidth_5 : decode cX0_textWidth 5 = .ok (.aload_n 0, 1) := by decide +kernel
theorem dX0_textWidth_6 : decode cX0_textWidth 6 = .ok (.iload_n 1, 1) := by decide +kernel
theorem dX0_textWidth_7 : decode cX0_textWidth 7 = .ok (.iload_n 2, 1) := by decide +kernel
theorem dX0_textWidth_8 : decode cX0_textWidth 8 = .ok (.invokestatic 94, 3) := by decide +kernel
theorem dX0_textWidth_11 : decode cX0_textWidth 11 = .ok (.invokevirtual 97, 3) := by decide +kernel
theorem dX0_textWidth_14 : decode cX0_textWidth 14 = .ok (.ireturn, 1) := by decide +kernel
set_option maxRecDepth 20000 in
theorem ggX0_cut_X0_requireExit : GoodIn wsX0_cut wsX0_requireExit := goodIn_ca (goodIn_r _ [10, 11, 12, 13, 14, 9, 15] (by decide +kernel) (by decide +kernel)) (goodIn_sub (fun _ h => List.mem_cons_of_mem _ (List.mem_append_right _ h)) (by decide +kernel))
set_option maxRecDepth 20000 in
theorem gX0_cut_X0_requireExit : GoodIn wsX0_cut (va_wsS RX0 81 yX0_requireExit wsX0_requireExit) := goodIn_app (goodIn_of _ (by decide +kernel)) ggX0_cut_X0_requireExit
set_option maxRecDepth 20000 in
theorem ggX0_cut_X0_requireText : GoodIn wsX0_cut wsX0_requireText := goodIn_ca (goodIn_r _ [18, 1, 2] (by decide +kernel) (by decide +kernel)) (goodIn_sub (fun _ h => List.mem_cons_of_mem _ (List.mem_append_left _ (List.mem_append_left _ (List.mem_append_right _ h)))) (by decide +kernel))
set_option maxRecDepth 20000 in
theorem gX0_cut_X0_requireText : GoodIn wsX0_cut (va_wsS RX0 91 yX0_requireText wsX0_requireText) := goodIn_app (goodIn_of _ (by decide +kernel)) ggX0_cut_X0_requireText
set_option maxRecDepth 20000 in
theorem ggX0_cut_X0_pack : GoodIn wsX0_cut wsX0_pack := goodIn_r _ [21] (by decide +kernel) (by decide +kernel)
set_option maxRecDepth 20000 in
theorem gX0_cut_X0_pack : GoodIn wsX0_cut (va_wsS RX0 94 yX0_pack wsX0_pack) := goodIn_app (goodIn_of _ (by decide +kernel)) ggX0_cut_X0_pack
set_option maxRecDepth 20000 in
theorem ggX0_cut_X0_plateFor : GoodIn wsX0_cut wsX0_plateFor := goodIn_r _ [25, 26, 27, 28, 9, 29, 30, 31, 32, 33, 34, 35, 36, 37, 38, 39, 40, 41, 42, 43, 44, 45, 46, 47, 48, 49, 50, 51, 52, 53, 54, 55, 56, 57, 58, 59, 74, 75, 76, 77, 78, 79, 80, 81, 82, 83] (by decide +kernel) (by decide +kernel)
set_option maxRecDepth 20000 in
theorem gX0_cut_X0_plateFor : GoodIn wsX0_cut (wsV RX0 102 RX0 yX0_plateFor wsX0_plateFor) := goodIn_app (goodIn_of _ (by decide +kernel)) ggX0_cut_X0_plateFor
set_option maxRecDepth 20000 in
theorem ggX0_cut_X0_wayOf : GoodIn wsX0_cut wsX0_wayOf := goodIn_r _ [62] (by decide +kernel) (by decide +kernel)
set_option maxRecDepth 20000 in
theorem gX0_cut_X0_wayOf : GoodIn wsX0_cut (va_wsS RX0 88 yX0_wayOf wsX0_wayOf) := goodIn_app (goodIn_of _ (by decide +kernel)) ggX0_cut_X0_wayOf
set_option maxRecDepth 20000 in
theorem ggX0_cut_X0_engrave : GoodIn wsX0_cut wsX0_engrave := goodIn_r _ [66, 5, 67, 30, 68, 32, 33, 9, 34, 35, 36, 37, 74, 75, 76, 77, 78, 79, 80, 81, 82, 83] (by decide +kernel) (by decide +kernel)
set_option maxRecDepth 20000 in
theorem gX0_cut_X0_engrave : GoodIn wsX0_cut (wsV RX0 110 RX0 yX0_engrave wsX0_engrave) := goodIn_app (goodIn_of _ (by decide +kernel)) ggX0_cut_X0_engrave
set_option maxRecDepth 20000 in
theorem ggX0_cut_X0_forgetWalks : GoodIn wsX0_cut wsX0_forgetWalks := goodIn_r _ [72, 73, 74, 75, 76, 77, 78, 79, 80, 81, 82, 83] (by decide +kernel) (by decide +kernel)
set_option maxRecDepth 20000 in
theorem gX0_cut_X0_forgetWalks : GoodIn wsX0_cut (wsV RX0 60 RX0 yX0_forgetWalks wsX0_forgetWalks) := goodIn_app (goodIn_of _ (by decide +kernel)) ggX0_cut_X0_forgetWalks
theorem dX0_cut_0 : decode cX0_cut 0 = .ok (.iload_n 1, 1) := by decide +kernel
theorem dX0_cut_1 : decode cX0_cut 1 = .ok (.iload_n 2, 1) := by decide +kernel
theorem dX0_cut_2 : decode cX0_cut 2 = .ok (.invokestatic 81, 3) := by decide +kernel
theorem dX0_cut_5 : decode cX0_cut 5 = .ok (.iload_n 3, 1) := by decide +kernel
theorem dX0_cut_6 : decode cX0_cut 6 = .ok (.iload 4, 2) := by decide +kernel
theorem dX0_cut_8 : decode cX0_cut 8 = .ok (.invokestatic 91, 3) := by decide +kernel
theorem dX0_cut_11 : decode cX0_cut 11 = .ok (.iload 5, 2) := by decide +kernel
theorem dX0_cut_13 : decode cX0_cut 13 = .ok (.ifCond .lt 10, 3) := by decide +kernel
theorem dX0_cut_16 : decode cX0_cut 16 = .ok (.iload 5, 2) := by decide +kernel
theorem dX0_cut_18 : decode cX0_cut 18 = .ok (.bipush 9, 2) := by decide +kernel
theorem dX0_cut_20 : decode cX0_cut 20 = .ok (.if_icmp .le 13, 3) := by decide +kernel
theorem dX0_cut_23 : decode cX0_cut 23 = .ok (.new 71, 3) := by decide +kernel
theorem dX0_cut_26 : decode cX0_cut 26 = .ok (.dup, 1) := by decide +kernel
theorem dX0_cut_27 : decode cX0_cut 27 = .ok (.ldc 100, 2) := by decide +kernel
theorem dX0_cut_29 : decode cX0_cut 29 = .ok (.invokespecial 75, 3) := by decide +kernel
theorem dX0_cut_32 : decode cX0_cut 32 = .ok (.athrow, 1) := by decide +kernel
theorem dX0_cut_33 : decode cX0_cut 33 = .ok (.iload_n 3, 1) := by decide +kernel
theorem dX0_cut_34 : decode cX0_cut 34 = .ok (.iload 4, 2) := by decide +kernel
theorem dX0_cut_36 : decode cX0_cut 36 = .ok (.invokestatic 94, 3) := by decide +kernel
theorem dX0_cut_39 : decode cX0_cut 39 = .ok (.istore 6, 2) := by decide +kernel
theorem dX0_cut_41 : decode cX0_cut 41 = .ok (.aload_n 0, 1) := by decide +kernel
theorem dX0_cut_42 : decode cX0_cut 42 = .ok (.iload 6, 2) := by decide +kernel
theorem dX0_cut_44 : decode cX0_cut 44 = .ok (.invokevirtual 102, 3) := by decide +kernel
theorem dX0_cut_47 : decode cX0_cut 47 = .ok (.istore 7, 2) := by decide +kernel
theorem dX0_cut_49 : decode cX0_cut 49 = .ok (.iload 7, 2) := by decide +kernel
theorem dX0_cut_51 : decode cX0_cut 51 = .ok (.iconst (-1), 1) := by decide +kernel
theorem dX0_cut_52 : decode cX0_cut 52 = .ok (.if_icmp .ne 13, 3) := by decide +kernel
theorem dX0_cut_55 : decode cX0_cut 55 = .ok (.new 105, 3) := by decide +kernel
theorem dX0_cut_58 : decode cX0_cut 58 = .ok (.dup, 1) := by decide +kernel
theorem dX0_cut_59 : decode cX0_cut 59 = .ok (.ldc 107, 2) := by decide +kernel
theorem dX0_cut_61 : decode cX0_cut 61 = .ok (.invokespecial 109, 3) := by decide +kernel
theorem dX0_cut_64 : decode cX0_cut 64 = .ok (.athrow, 1) := by decide +kernel
theorem dX0_cut_65 : decode cX0_cut 65 = .ok (.iload_n 1, 1) := by decide +kernel
theorem dX0_cut_66 : decode cX0_cut 66 = .ok (.iload_n 2, 1) := by decide +kernel
theorem dX0_cut_67 : decode cX0_cut 67 = .ok (.invokestatic 88, 3) := by decide +kernel
theorem dX0_cut_70 : decode cX0_cut 70 = .ok (.istore 8, 2) := by decide +kernel
theorem dX0_cut_72 : decode cX0_cut 72 = .ok (.aload_n 0, 1) := by decide +kernel
theorem dX0_cut_73 : decode cX0_cut 73 = .ok (.getfield 22, 3) := by decide +kernel
theorem dX0_cut_76 : decode cX0_cut 76 = .ok (.iload 8, 2) := by decide +kernel
theorem dX0_cut_78 : decode cX0_cut 78 = .ok (.iload 6, 2) := by decide +kernel
theorem dX0_cut_80 : decode cX0_cut 80 = .ok (.iastore, 1) := by decide +kernel
theorem dX0_cut_81 : decode cX0_cut 81 = .ok (.aload_n 0, 1) := by decide +kernel
theorem dX0_cut_82 : decode cX0_cut 82 = .ok (.getfield 25, 3) := by decide +kernel
theorem dX0_cut_85 : decode cX0_cut 85 = .ok (.iload 8, 2) := by decide +kernel
theorem dX0_cut_87 : decode cX0_cut 87 = .ok (.iload 5, 2) := by decide +kernel
theorem dX0_cut_89 : decode cX0_cut 89 = .ok (.iastore, 1) := by decide +kernel
theorem dX0_cut_90 : decode cX0_cut 90 = .ok (.aload_n 0, 1) := by decide +kernel
theorem dX0_cut_91 : decode cX0_cut 91 = .ok (.iload 8, 2) := by decide +kernel
theorem dX0_cut_93 : decode cX0_cut 93 = .ok (.iload 7, 2) := by decide +kernel
theorem dX0_cut_95 : decode cX0_cut 95 = .ok (.invokevirtual 110, 3) := by decide +kernel
theorem dX0_cut_98 : decode cX0_cut 98 = .ok (.aload_n 0, 1) := by decide +kernel
theorem dX0_cut_99 : decode cX0_cut 99 = .ok (.invokevirtual 60, 3) := by decide +kernel
theorem dX0_cut_102 : decode cX0_cut 102 = .ok (.iload 7, 2) := by decide +kernel
theorem dX0_cut_104 : decode cX0_cut 104 = .ok (.ireturn, 1) := by decide +kernel
set_option maxRecDepth 20000 in
theorem ggX0_remove_X0_requireExit : GoodIn wsX0_remove wsX0_requireExit := goodIn_ca (goodIn_r _ [5, 6, 7, 8, 9, 4, 10] (by decide +kernel) (by decide +kernel)) (goodIn_sub (fun _ h => List.mem_cons_of_mem _ (List.mem_append_right _ h)) (by decide +kernel))
set_option maxRecDepth 20000 in
theorem gX0_remove_X0_requireExit : GoodIn wsX0_remove (va_wsS RX0 81 yX0_requireExit wsX0_requireExit) := goodIn_app (goodIn_of _ (by decide +kernel)) ggX0_remove_X0_requireExit
set_option maxRecDepth 20000 in
theorem ggX0_remove_X0_wayOf : GoodIn wsX0_remove wsX0_wayOf := goodIn_r _ [13] (by decide +kernel) (by decide +kernel)
set_option maxRecDepth 20000 in
theorem gX0_remove_X0_wayOf : GoodIn wsX0_remove (va_wsS RX0 88 yX0_wayOf wsX0_wayOf) := goodIn_app (goodIn_of _ (by decide +kernel)) ggX0_remove_X0_wayOf
set_option maxRecDepth 20000 in
theorem ggX0_remove_X0_forgetWalks : GoodIn wsX0_remove wsX0_forgetWalks := goodIn_r _ [17, 18, 19, 20, 21, 22, 23, 24, 25, 26, 27, 28] (by decide +kernel) (by decide +kernel)
set_option maxRecDepth 20000 in
theorem gX0_remove_X0_forgetWalks : GoodIn wsX0_remove (wsV RX0 60 RX0 yX0_forgetWalks wsX0_forgetWalks) := goodIn_app (goodIn_of _ (by decide +kernel)) ggX0_remove_X0_forgetWalks
theorem dX0_remove_0 : decode cX0_remove 0 = .ok (.iload_n 1, 1) := by decide +kernel
theorem dX0_remove_1 : decode cX0_remove 1 = .ok (.iload_n 2, 1) := by decide +kernel
theorem dX0_remove_2 : decode cX0_remove 2 = .ok (.invokestatic 81, 3) := by decide +kernel
theorem dX0_remove_5 : decode cX0_remove 5 = .ok (.iload_n 1, 1) := by decide +kernel
theorem dX0_remove_6 : decode cX0_remove 6 = .ok (.iload_n 2, 1) := by decide +kernel
theorem dX0_remove_7 : decode cX0_remove 7 = .ok (.invokestatic 88, 3) := by decide +kernel
theorem dX0_remove_10 : decode cX0_remove 10 = .ok (.istore_n 3, 1) := by decide +kernel
theorem dX0_remove_11 : decode cX0_remove 11 = .ok (.aload_n 0, 1) := by decide +kernel
theorem dX0_remove_12 : decode cX0_remove 12 = .ok (.getfield 22, 3) := by decide +kernel
theorem dX0_remove_15 : decode cX0_remove 15 = .ok (.iload_n 3, 1) := by decide +kernel
theorem dX0_remove_16 : decode cX0_remove 16 = .ok (.iaload, 1) := by decide +kernel
theorem dX0_remove_17 : decode cX0_remove 17 = .ok (.ifCond .eq 7, 3) := by decide +kernel
theorem dX0_remove_20 : decode cX0_remove 20 = .ok (.iconst 1, 1) := by decide +kernel
theorem dX0_remove_21 : decode cX0_remove 21 = .ok (.goto 4, 3) := by decide +kernel
theorem dX0_remove_24 : decode cX0_remove 24 = .ok (.iconst 0, 1) := by decide +kernel
theorem dX0_remove_25 : decode cX0_remove 25 = .ok (.istore 4, 2) := by decide +kernel
theorem dX0_remove_27 : decode cX0_remove 27 = .ok (.aload_n 0, 1) := by decide +kernel
theorem dX0_remove_28 : decode cX0_remove 28 = .ok (.getfield 22, 3) := by decide +kernel
theorem dX0_remove_31 : decode cX0_remove 31 = .ok (.iload_n 3, 1) := by decide +kernel
theorem dX0_remove_32 : decode cX0_remove 32 = .ok (.iconst 0, 1) := by decide +kernel
theorem dX0_remove_33 : decode cX0_remove 33 = .ok (.iastore, 1) := by decide +kernel
theorem dX0_remove_34 : decode cX0_remove 34 = .ok (.aload_n 0, 1) := by decide +kernel
theorem dX0_remove_35 : decode cX0_remove 35 = .ok (.invokevirtual 60, 3) := by decide +kernel
theorem dX0_remove_38 : decode cX0_remove 38 = .ok (.iload 4, 2) := by decide +kernel
theorem dX0_remove_40 : decode cX0_remove 40 = .ok (.ireturn, 1) := by decide +kernel
set_option maxRecDepth 20000 in
theorem ggX0_isOld_X0_requireExit : GoodIn wsX0_isOld wsX0_requireExit := goodIn_ca (goodIn_r _ [4, 5, 6, 7, 8, 3, 9] (by decide +kernel) (by decide +kernel)) (goodIn_sub (fun _ h => List.mem_cons_of_mem _ (List.mem_append_right _ h)) (by decide +kernel))
set_option maxRecDepth 20000 in
theorem gX0_isOld_X0_requireExit : GoodIn wsX0_isOld (va_wsS RX0 81 yX0_requireExit wsX0_requireExit) := goodIn_app (goodIn_of _ (by decide +kernel)) ggX0_isOld_X0_requireExit
set_option maxRecDepth 20000 in
theorem ggX0_isOld_X0_wayOf : GoodIn wsX0_isOld wsX0_wayOf := goodIn_r _ [12] (by decide +kernel) (by decide +kernel)
set_option maxRecDepth 20000 in
theorem gX0_isOld_X0_wayOf : GoodIn wsX0_isOld (va_wsS RX0 88 yX0_wayOf wsX0_wayOf) := goodIn_app (goodIn_of _ (by decide +kernel)) ggX0_isOld_X0_wayOf
set_option maxRecDepth 20000 in
theorem ggX0_isOld_X0_isOutdated : GoodIn wsX0_isOld wsX0_isOutdated := goodIn_r _ [16, 17, 18, 19, 20, 21, 3, 22, 23, 24, 25, 26, 27, 28, 29, 30, 31, 32, 33, 34, 35] (by decide +kernel) (by decide +kernel)
set_option maxRecDepth 20000 in
theorem gX0_isOld_X0_isOutdated : GoodIn wsX0_isOld (wsV RX0 113 RX0 yX0_isOutdated wsX0_isOutdated) := goodIn_app (goodIn_of _ (by decide +kernel)) ggX0_isOld_X0_isOutdated
theorem dX0_isOld_0 : decode cX0_isOld 0 = .ok (.iload_n 1, 1) := by decide +kernel
theorem dX0_isOld_1 : decode cX0_isOld 1 = .ok (.iload_n 2, 1) := by decide +kernel
theorem dX0_isOld_2 : decode cX0_isOld 2 = .ok (.invokestatic 81, 3) := by decide +kernel
theorem dX0_isOld_5 : decode cX0_isOld 5 = .ok (.aload_n 0, 1) := by decide +kernel
theorem dX0_isOld_6 : decode cX0_isOld 6 = .ok (.iload_n 1, 1) := by decide +kernel
theorem dX0_isOld_7 : decode cX0_isOld 7 = .ok (.iload_n 2, 1) := by decide +kernel
theorem dX0_isOld_8 : decode cX0_isOld 8 = .ok (.invokestatic 88, 3) := by decide +kernel
theorem dX0_isOld_11 : decode cX0_isOld 11 = .ok (.invokevirtual 113, 3) := by decide +kernel
theorem dX0_isOld_14 : decode cX0_isOld 14 = .ok (.ireturn, 1) := by decide +kernel
set_option maxRecDepth 20000 in
theorem ggX0_remake_X0_requirePlatesForOutdated : GoodIn wsX0_remake wsX0_requirePlatesForOutdated := goodIn_ca (goodIn_r _ [6, 7, 8, 1, 9, 10, 11, 5, 12, 13, 14, 15, 16, 17, 18, 19, 20, 21, 22, 23, 24, 25, 26, 27, 28, 29, 30, 31, 32, 33, 34, 35, 36, 37, 38, 39, 40, 41, 42, 43, 44, 45, 46, 47, 48, 49, 50, 51, 62, 63, 64, 65, 66, 67, 68, 69, 70, 71] (by decide +kernel) (by decide +kernel)) (goodIn_sub (fun _ h => List.mem_cons_of_mem _ (List.mem_append_right _ h)) (by decide +kernel))
set_option maxRecDepth 20000 in
theorem gX0_remake_X0_requirePlatesForOutdated : GoodIn wsX0_remake (wsV RX0 117 RX0 yX0_requirePlatesForOutdated wsX0_requirePlatesForOutdated) := goodIn_app (goodIn_of _ (by decide +kernel)) ggX0_remake_X0_requirePlatesForOutdated
set_option maxRecDepth 20000 in
theorem ggX0_remake_X0_isOutdated : GoodIn wsX0_remake wsX0_isOutdated := goodIn_r _ [12, 1, 13, 14, 15, 16, 5, 17, 18, 19, 20, 62, 63, 64, 65, 66, 67, 68, 69, 70, 71] (by decide +kernel) (by decide +kernel)
set_option maxRecDepth 20000 in
theorem gX0_remake_X0_isOutdated : GoodIn wsX0_remake (wsV RX0 113 RX0 yX0_isOutdated wsX0_isOutdated) := goodIn_app (goodIn_of _ (by decide +kernel)) ggX0_remake_X0_isOutdated
set_option maxRecDepth 20000 in
theorem ggX0_remake_X0_plateFor : GoodIn wsX0_remake wsX0_plateFor := goodIn_r _ [24, 25, 26, 27, 5, 28, 14, 29, 15, 16, 17, 18, 19, 20, 30, 31, 32, 33, 34, 35, 36, 37, 38, 39, 40, 41, 42, 43, 44, 45, 46, 47, 48, 49, 50, 51, 62, 63, 64, 65, 66, 67, 68, 69, 70, 71] (by decide +kernel) (by decide +kernel)
set_option maxRecDepth 20000 in
theorem gX0_remake_X0_plateFor : GoodIn wsX0_remake (wsV RX0 102 RX0 yX0_plateFor wsX0_plateFor) := goodIn_app (goodIn_of _ (by decide +kernel)) ggX0_remake_X0_plateFor
set_option maxRecDepth 20000 in
theorem ggX0_remake_X0_engrave : GoodIn wsX0_remake wsX0_engrave := goodIn_r _ [55, 1, 13, 14, 56, 15, 16, 5, 17, 18, 19, 20, 62, 63, 64, 65, 66, 67, 68, 69, 70, 71] (by decide +kernel) (by decide +kernel)
set_option maxRecDepth 20000 in
theorem gX0_remake_X0_engrave : GoodIn wsX0_remake (wsV RX0 110 RX0 yX0_engrave wsX0_engrave) := goodIn_app (goodIn_of _ (by decide +kernel)) ggX0_remake_X0_engrave
set_option maxRecDepth 20000 in
theorem ggX0_remake_X0_forgetWalks : GoodIn wsX0_remake wsX0_forgetWalks := goodIn_r _ [60, 61, 62, 63, 64, 65, 66, 67, 68, 69, 70, 71] (by decide +kernel) (by decide +kernel)
set_option maxRecDepth 20000 in
theorem gX0_remake_X0_forgetWalks : GoodIn wsX0_remake (wsV RX0 60 RX0 yX0_forgetWalks wsX0_forgetWalks) := goodIn_app (goodIn_of _ (by decide +kernel)) ggX0_remake_X0_forgetWalks
theorem dX0_remake_0 : decode cX0_remake 0 = .ok (.aload_n 0, 1) := by decide +kernel
theorem dX0_remake_1 : decode cX0_remake 1 = .ok (.invokevirtual 117, 3) := by decide +kernel
theorem dX0_remake_4 : decode cX0_remake 4 = .ok (.iconst 0, 1) := by decide +kernel
theorem dX0_remake_5 : decode cX0_remake 5 = .ok (.istore_n 1, 1) := by decide +kernel
theorem dX0_remake_6 : decode cX0_remake 6 = .ok (.iconst 0, 1) := by decide +kernel
theorem dX0_remake_7 : decode cX0_remake 7 = .ok (.istore_n 2, 1) := by decide +kernel
theorem dX0_remake_8 : decode cX0_remake 8 = .ok (.iload_n 2, 1) := by decide +kernel
theorem dX0_remake_9 : decode cX0_remake 9 = .ok (.bipush 32, 2) := by decide +kernel
theorem dX0_remake_11 : decode cX0_remake 11 = .ok (.if_icmp .ge 35, 3) := by decide +kernel
theorem dX0_remake_14 : decode cX0_remake 14 = .ok (.aload_n 0, 1) := by decide +kernel
theorem dX0_remake_15 : decode cX0_remake 15 = .ok (.iload_n 2, 1) := by decide +kernel
theorem dX0_remake_16 : decode cX0_remake 16 = .ok (.invokevirtual 113, 3) := by decide +kernel
theorem dX0_remake_19 : decode cX0_remake 19 = .ok (.ifCond .eq 21, 3) := by decide +kernel
theorem dX0_remake_22 : decode cX0_remake 22 = .ok (.aload_n 0, 1) := by decide +kernel
theorem dX0_remake_23 : decode cX0_remake 23 = .ok (.iload_n 2, 1) := by decide +kernel
theorem dX0_remake_24 : decode cX0_remake 24 = .ok (.aload_n 0, 1) := by decide +kernel
theorem dX0_remake_25 : decode cX0_remake 25 = .ok (.aload_n 0, 1) := by decide +kernel
theorem dX0_remake_26 : decode cX0_remake 26 = .ok (.getfield 22, 3) := by decide +kernel
theorem dX0_remake_29 : decode cX0_remake 29 = .ok (.iload_n 2, 1) := by decide +kernel
theorem dX0_remake_30 : decode cX0_remake 30 = .ok (.iaload, 1) := by decide +kernel
theorem dX0_remake_31 : decode cX0_remake 31 = .ok (.invokevirtual 102, 3) := by decide +kernel
theorem dX0_remake_34 : decode cX0_remake 34 = .ok (.invokevirtual 110, 3) := by decide +kernel
theorem dX0_remake_37 : decode cX0_remake 37 = .ok (.iinc 1 1, 3) := by decide +kernel
theorem dX0_remake_40 : decode cX0_remake 40 = .ok (.iinc 2 1, 3) := by decide +kernel
theorem dX0_remake_43 : decode cX0_remake 43 = .ok (.goto (-35), 3) := by decide +kernel
theorem dX0_remake_46 : decode cX0_remake 46 = .ok (.aload_n 0, 1) := by decide +kernel
theorem dX0_remake_47 : decode cX0_remake 47 = .ok (.invokevirtual 60, 3) := by decide +kernel
theorem dX0_remake_50 : decode cX0_remake 50 = .ok (.iload_n 1, 1) := by decide +kernel
theorem dX0_remake_51 : decode cX0_remake 51 = .ok (.ireturn, 1) := by decide +kernel
set_option maxRecDepth 20000 in
theorem ggX0_read_X0_requireExit : GoodIn wsX0_read wsX0_requireExit := goodIn_ca (goodIn_r _ [5, 6, 7, 8, 9, 4, 10] (by decide +kernel) (by decide +kernel)) (goodIn_sub (fun _ h => List.mem_cons_of_mem _ (List.mem_append_right _ h)) (by decide +kernel))
set_option maxRecDepth 20000 in
theorem gX0_read_X0_requireExit : GoodIn wsX0_read (va_wsS RX0 81 yX0_requireExit wsX0_requireExit) := goodIn_app (goodIn_of _ (by decide +kernel)) ggX0_read_X0_requireExit
set_option maxRecDepth 20000 in
theorem ggX0_read_X0_wayOf : GoodIn wsX0_read wsX0_wayOf := goodIn_r _ [13] (by decide +kernel) (by decide +kernel)
set_option maxRecDepth 20000 in
theorem gX0_read_X0_wayOf : GoodIn wsX0_read (va_wsS RX0 88 yX0_wayOf wsX0_wayOf) := goodIn_app (goodIn_of _ (by decide +kernel)) ggX0_read_X0_wayOf
set_option maxRecDepth 20000 in
theorem ggX0_read_X0_readText : GoodIn wsX0_read wsX0_readText := goodIn_r _ [17, 1, 18, 19, 20, 21, 4, 22, 23, 24, 25, 26, 27, 28, 29, 30, 31, 32, 33, 34, 35, 36, 37, 38, 39, 40, 41, 42, 43, 44, 48, 49, 50, 51, 52, 53, 54, 55, 56, 57] (by decide +kernel) (by decide +kernel)
set_option maxRecDepth 20000 in
theorem gX0_read_X0_readText : GoodIn wsX0_read (wsV RX0 120 RX0 yX0_readText wsX0_readText) := goodIn_app (goodIn_of _ (by decide +kernel)) ggX0_read_X0_readText
set_option maxRecDepth 20000 in
theorem ggX0_read_X0_numberOf : GoodIn wsX0_read wsX0_numberOf := goodIn_r _ [47] (by decide +kernel) (by decide +kernel)
set_option maxRecDepth 20000 in
theorem gX0_read_X0_numberOf : GoodIn wsX0_read (va_wsS RX0 123 yX0_numberOf wsX0_numberOf) := goodIn_app (goodIn_of _ (by decide +kernel)) ggX0_read_X0_numberOf
theorem dX0_read_0 : decode cX0_read 0 = .ok (.iload_n 1, 1) := by decide +kernel
theorem dX0_read_1 : decode cX0_read 1 = .ok (.iload_n 2, 1) := by decide +kernel
theorem dX0_read_2 : decode cX0_read 2 = .ok (.invokestatic 81, 3) := by decide +kernel
theorem dX0_read_5 : decode cX0_read 5 = .ok (.iload_n 1, 1) := by decide +kernel
theorem dX0_read_6 : decode cX0_read 6 = .ok (.iload_n 2, 1) := by decide +kernel
theorem dX0_read_7 : decode cX0_read 7 = .ok (.invokestatic 88, 3) := by decide +kernel
theorem dX0_read_10 : decode cX0_read 10 = .ok (.istore_n 3, 1) := by decide +kernel
theorem dX0_read_11 : decode cX0_read 11 = .ok (.aload_n 0, 1) := by decide +kernel
theorem dX0_read_12 : decode cX0_read 12 = .ok (.getfield 22, 3) := by decide +kernel
theorem dX0_read_15 : decode cX0_read 15 = .ok (.iload_n 3, 1) := by decide +kernel
theorem dX0_read_16 : decode cX0_read 16 = .ok (.iaload, 1) := by decide +kernel
theorem dX0_read_17 : decode cX0_read 17 = .ok (.ifCond .ne 7, 3) := by decide +kernel
theorem dX0_read_20 : decode cX0_read 20 = .ok (.iconst (-1), 1) := by decide +kernel
theorem dX0_read_21 : decode cX0_read 21 = .ok (.goto 11, 3) := by decide +kernel
theorem dX0_read_24 : decode cX0_read 24 = .ok (.aload_n 0, 1) := by decide +kernel
theorem dX0_read_25 : decode cX0_read 25 = .ok (.iload_n 3, 1) := by decide +kernel
theorem dX0_read_26 : decode cX0_read 26 = .ok (.invokevirtual 120, 3) := by decide +kernel
theorem dX0_read_29 : decode cX0_read 29 = .ok (.invokestatic 123, 3) := by decide +kernel
theorem dX0_read_32 : decode cX0_read 32 = .ok (.ireturn, 1) := by decide +kernel
theorem dX0_cost_0 : decode cX0_cost 0 = .ok (.aload_n 0, 1) := by decide +kernel
theorem dX0_cost_1 : decode cX0_cost 1 = .ok (.getfield 31, 3) := by decide +kernel
theorem dX0_cost_4 : decode cX0_cost 4 = .ok (.lreturn, 1) := by decide +kernel
set_option maxRecDepth 20000 in
theorem ggX0_walk_X0_requirePlace : GoodIn wsX0_walk wsX0_requirePlace := goodIn_ca (goodIn_r _ [6, 7, 8] (by decide +kernel) (by decide +kernel)) (goodIn_sub (fun _ h => List.mem_cons_of_mem _ (List.mem_append_left _ (List.mem_append_right _ h))) (by decide +kernel))
set_option maxRecDepth 20000 in
theorem gX0_walk_X0_requirePlace : GoodIn wsX0_walk (va_wsS RX0 85 yX0_requirePlace wsX0_requirePlace) := goodIn_app (goodIn_of _ (by decide +kernel)) ggX0_walk_X0_requirePlace
set_option maxRecDepth 20000 in
theorem ggX0_walk_X0_requireText : GoodIn wsX0_walk wsX0_requireText := goodIn_ca (goodIn_r _ [11, 12, 13] (by decide +kernel) (by decide +kernel)) (goodIn_sub (fun _ h => List.mem_cons_of_mem _ (List.mem_append_right _ h)) (by decide +kernel))
set_option maxRecDepth 20000 in
theorem gX0_walk_X0_requireText : GoodIn wsX0_walk (va_wsS RX0 91 yX0_requireText wsX0_requireText) := goodIn_app (goodIn_of _ (by decide +kernel)) ggX0_walk_X0_requireText
set_option maxRecDepth 20000 in
theorem ggX0_walk_X0_pack : GoodIn wsX0_walk wsX0_pack := goodIn_r _ [16] (by decide +kernel) (by decide +kernel)
set_option maxRecDepth 20000 in
theorem gX0_walk_X0_pack : GoodIn wsX0_walk (va_wsS RX0 94 yX0_pack wsX0_pack) := goodIn_app (goodIn_of _ (by decide +kernel)) ggX0_walk_X0_pack
set_option maxRecDepth 20000 in
theorem ggX0_walk_J7_fill_53178 : GoodIn wsX0_walk wsJ7_fill_53178 := goodIn_r _ [20] (by decide +kernel) (by decide +kernel)
set_option maxRecDepth 20000 in
theorem gX0_walk_J7_fill_53178 : GoodIn wsX0_walk (va_wsS RX0 42 yJ7_fill_53178 wsJ7_fill_53178) := goodIn_app (goodIn_of _ (by decide +kernel)) ggX0_walk_J7_fill_53178
set_option maxRecDepth 20000 in
theorem ggX0_walk_X0_stepsToArrive : GoodIn wsX0_walk wsX0_stepsToArrive := goodIn_r _ [24, 25, 26, 27, 28, 29, 5, 30, 31, 32, 33, 34, 35, 36, 37, 38, 39, 40, 41, 42, 43, 44, 45, 46, 47, 48, 49, 50, 51, 52, 53, 54, 55, 56, 57, 58, 59, 60, 61, 62, 63, 64, 65, 66, 14, 15, 16, 67, 68, 69, 70, 71, 72, 73, 74, 75, 76] (by decide +kernel) (by decide +kernel)
set_option maxRecDepth 20000 in
theorem gX0_walk_X0_stepsToArrive : GoodIn wsX0_walk (wsV RX0 126 RX0 yX0_stepsToArrive wsX0_stepsToArrive) := goodIn_app (goodIn_of _ (by decide +kernel)) ggX0_walk_X0_stepsToArrive
theorem dX0_walk_0 : decode cX0_walk 0 = .ok (.iload_n 1, 1) := by decide +kernel
theorem dX0_walk_1 : decode cX0_walk 1 = .ok (.invokestatic 85, 3) := by decide +kernel
theorem dX0_walk_4 : decode cX0_walk 4 = .ok (.iload_n 2, 1) := by decide +kernel
theorem dX0_walk_5 : decode cX0_walk 5 = .ok (.iload_n 3, 1) := by decide +kernel
theorem dX0_walk_6 : decode cX0_walk 6 = .ok (.invokestatic 91, 3) := by decide +kernel
theorem dX0_walk_9 : decode cX0_walk 9 = .ok (.iload_n 2, 1) := by decide +kernel
theorem dX0_walk_10 : decode cX0_walk 10 = .ok (.iload_n 3, 1) := by decide +kernel
theorem dX0_walk_11 : decode cX0_walk 11 = .ok (.invokestatic 94, 3) := by decide +kernel
theorem dX0_walk_14 : decode cX0_walk 14 = .ok (.istore 4, 2) := by decide +kernel
theorem dX0_walk_16 : decode cX0_walk 16 = .ok (.iload 4, 2) := by decide +kernel
theorem dX0_walk_18 : decode cX0_walk 18 = .ok (.aload_n 0, 1) := by decide +kernel
theorem dX0_walk_19 : decode cX0_walk 19 = .ok (.getfield 35, 3) := by decide +kernel
theorem dX0_walk_22 : decode cX0_walk 22 = .ok (.if_icmp .eq 18, 3) := by decide +kernel
theorem dX0_walk_25 : decode cX0_walk 25 = .ok (.aload_n 0, 1) := by decide +kernel
theorem dX0_walk_26 : decode cX0_walk 26 = .ok (.iload 4, 2) := by decide +kernel
theorem dX0_walk_28 : decode cX0_walk 28 = .ok (.putfield 35, 3) := by decide +kernel
theorem dX0_walk_31 : decode cX0_walk 31 = .ok (.aload_n 0, 1) := by decide +kernel
theorem dX0_walk_32 : decode cX0_walk 32 = .ok (.getfield 39, 3) := by decide +kernel
theorem dX0_walk_35 : decode cX0_walk 35 = .ok (.bipush (-2), 2) := by decide +kernel
theorem dX0_walk_37 : decode cX0_walk 37 = .ok (.invokestatic 42, 3) := by decide +kernel
theorem dX0_walk_40 : decode cX0_walk 40 = .ok (.aload_n 0, 1) := by decide +kernel
theorem dX0_walk_41 : decode cX0_walk 41 = .ok (.getfield 39, 3) := by decide +kernel
theorem dX0_walk_44 : decode cX0_walk 44 = .ok (.iload_n 1, 1) := by decide +kernel
theorem dX0_walk_45 : decode cX0_walk 45 = .ok (.iaload, 1) := by decide +kernel
theorem dX0_walk_46 : decode cX0_walk 46 = .ok (.bipush (-2), 2) := by decide +kernel
theorem dX0_walk_48 : decode cX0_walk 48 = .ok (.if_icmp .ne 16, 3) := by decide +kernel
theorem dX0_walk_51 : decode cX0_walk 51 = .ok (.aload_n 0, 1) := by decide +kernel
theorem dX0_walk_52 : decode cX0_walk 52 = .ok (.getfield 39, 3) := by decide +kernel
theorem dX0_walk_55 : decode cX0_walk 55 = .ok (.iload_n 1, 1) := by decide +kernel
theorem dX0_walk_56 : decode cX0_walk 56 = .ok (.aload_n 0, 1) := by decide +kernel
theorem dX0_walk_57 : decode cX0_walk 57 = .ok (.iload_n 1, 1) := by decide +kernel
theorem dX0_walk_58 : decode cX0_walk 58 = .ok (.iload 4, 2) := by decide +kernel
theorem dX0_walk_60 : decode cX0_walk 60 = .ok (.invokevirtual 126, 3) := by decide +kernel
theorem dX0_walk_63 : decode cX0_walk 63 = .ok (.iastore, 1) := by decide +kernel
theorem dX0_walk_64 : decode cX0_walk 64 = .ok (.aload_n 0, 1) := by decide +kernel
theorem dX0_walk_65 : decode cX0_walk 65 = .ok (.getfield 39, 3) := by decide +kernel
theorem dX0_walk_68 : decode cX0_walk 68 = .ok (.iload_n 1, 1) := by decide +kernel
theorem dX0_walk_69 : decode cX0_walk 69 = .ok (.iaload, 1) := by decide +kernel
theorem dX0_walk_70 : decode cX0_walk 70 = .ok (.ireturn, 1) := by decide +kernel
set_option maxRecDepth 20000 in
theorem ggX0_walkBySteps_X0_requirePlace : GoodIn wsX0_walkBySteps wsX0_requirePlace := goodIn_ca (goodIn_r _ [4, 5, 6] (by decide +kernel) (by decide +kernel)) (goodIn_sub (fun _ h => List.mem_cons_of_mem _ (List.mem_append_left _ (List.mem_append_right _ h))) (by decide +kernel))
set_option maxRecDepth 20000 in
theorem gX0_walkBySteps_X0_requirePlace : GoodIn wsX0_walkBySteps (va_wsS RX0 85 yX0_requirePlace wsX0_requirePlace) := goodIn_app (goodIn_of _ (by decide +kernel)) ggX0_walkBySteps_X0_requirePlace
set_option maxRecDepth 20000 in
theorem ggX0_walkBySteps_X0_requireText : GoodIn wsX0_walkBySteps wsX0_requireText := goodIn_ca (goodIn_r _ [9, 10, 11] (by decide +kernel) (by decide +kernel)) (goodIn_sub (fun _ h => List.mem_cons_of_mem _ (List.mem_append_right _ h)) (by decide +kernel))
set_option maxRecDepth 20000 in
theorem gX0_walkBySteps_X0_requireText : GoodIn wsX0_walkBySteps (va_wsS RX0 91 yX0_requireText wsX0_requireText) := goodIn_app (goodIn_of _ (by decide +kernel)) ggX0_walkBySteps_X0_requireText
set_option maxRecDepth 20000 in
theorem ggX0_walkBySteps_X0_pack : GoodIn wsX0_walkBySteps wsX0_pack := goodIn_r _ [14] (by decide +kernel) (by decide +kernel)
set_option maxRecDepth 20000 in
theorem gX0_walkBySteps_X0_pack : GoodIn wsX0_walkBySteps (va_wsS RX0 94 yX0_pack wsX0_pack) := goodIn_app (goodIn_of _ (by decide +kernel)) ggX0_walkBySteps_X0_pack
set_option maxRecDepth 20000 in
theorem ggX0_walkBySteps_X0_stepsToArrive : GoodIn wsX0_walkBySteps wsX0_stepsToArrive := goodIn_r _ [18, 19, 20, 21, 22, 23, 3, 24, 25, 26, 27, 28, 29, 30, 31, 32, 33, 34, 35, 36, 37, 38, 39, 40, 41, 42, 43, 44, 45, 46, 47, 48, 49, 50, 51, 52, 53, 54, 55, 56, 57, 58, 59, 60, 12, 13, 14, 61, 62, 63, 64, 65, 66, 67, 68, 69, 70] (by decide +kernel) (by decide +kernel)
set_option maxRecDepth 20000 in
theorem gX0_walkBySteps_X0_stepsToArrive : GoodIn wsX0_walkBySteps (wsV RX0 126 RX0 yX0_stepsToArrive wsX0_stepsToArrive) := goodIn_app (goodIn_of _ (by decide +kernel)) ggX0_walkBySteps_X0_stepsToArrive
theorem dX0_walkBySteps_0 : decode cX0_walkBySteps 0 = .ok (.iload_n 1, 1) := by decide +kernel
theorem dX0_walkBySteps_1 : decode cX0_walkBySteps 1 = .ok (.invokestatic 85, 3) := by decide +kernel
theorem dX0_walkBySteps_4 : decode cX0_walkBySteps 4 = .ok (.iload_n 2, 1) := by decide +kernel
theorem dX0_walkBySteps_5 : decode cX0_walkBySteps 5 = .ok (.iload_n 3, 1) := by decide +kernel
theorem dX0_walkBySteps_6 : decode cX0_walkBySteps 6 = .ok (.invokestatic 91, 3) := by decide +kernel
theorem dX0_walkBySteps_9 : decode cX0_walkBySteps 9 = .ok (.aload_n 0, 1) := by decide +kernel
theorem dX0_walkBySteps_10 : decode cX0_walkBySteps 10 = .ok (.iload_n 1, 1) := by decide +kernel
theorem dX0_walkBySteps_11 : decode cX0_walkBySteps 11 = .ok (.iload_n 2, 1) := by decide +kernel
theorem dX0_walkBySteps_12 : decode cX0_walkBySteps 12 = .ok (.iload_n 3, 1) := by decide +kernel
theorem dX0_walkBySteps_13 : decode cX0_walkBySteps 13 = .ok (.invokestatic 94, 3) := by decide +kernel
theorem dX0_walkBySteps_16 : decode cX0_walkBySteps 16 = .ok (.invokevirtual 126, 3) := by decide +kernel
theorem dX0_walkBySteps_19 : decode cX0_walkBySteps 19 = .ok (.ireturn, 1) := by decide +kernel
set_option maxRecDepth 20000 in
theorem ggX0_placeBehind_X0_requirePlace : GoodIn wsX0_placeBehind wsX0_requirePlace := goodIn_ca (goodIn_r _ [6, 7, 8] (by decide +kernel) (by decide +kernel)) (goodIn_sub (fun _ h => List.mem_cons_of_mem _ (List.mem_append_right _ h)) (by decide +kernel))
set_option maxRecDepth 20000 in
theorem gX0_placeBehind_X0_requirePlace : GoodIn wsX0_placeBehind (va_wsS RX0 85 yX0_requirePlace wsX0_requirePlace) := goodIn_app (goodIn_of _ (by decide +kernel)) ggX0_placeBehind_X0_requirePlace
set_option maxRecDepth 20000 in
theorem ggX0_placeBehind_X0_requireText : GoodIn wsX0_placeBehind wsX0_requireText := goodIn_ca (goodIn_r _ [11, 1, 2] (by decide +kernel) (by decide +kernel)) (goodIn_sub (fun _ h => List.mem_cons_of_mem _ (List.mem_append_left _ (List.mem_append_right _ h))) (by decide +kernel))
set_option maxRecDepth 20000 in
theorem gX0_placeBehind_X0_requireText : GoodIn wsX0_placeBehind (va_wsS RX0 91 yX0_requireText wsX0_requireText) := goodIn_app (goodIn_of _ (by decide +kernel)) ggX0_placeBehind_X0_requireText
set_option maxRecDepth 20000 in
theorem ggX0_placeBehind_X0_pack : GoodIn wsX0_placeBehind wsX0_pack := goodIn_r _ [14] (by decide +kernel) (by decide +kernel)
set_option maxRecDepth 20000 in
theorem gX0_placeBehind_X0_pack : GoodIn wsX0_placeBehind (va_wsS RX0 94 yX0_pack wsX0_pack) := goodIn_app (goodIn_of _ (by decide +kernel)) ggX0_placeBehind_X0_pack
set_option maxRecDepth 20000 in
theorem ggX0_placeBehind_X0_placeReached : GoodIn wsX0_placeBehind wsX0_placeReached := goodIn_r _ [18, 19, 20, 21, 22, 23, 5, 24, 25, 26, 27, 28, 29, 30, 31, 32, 33, 34, 35, 36, 37, 38, 39, 40, 41, 42, 43, 44, 45, 46, 47, 48, 49, 50, 51, 52, 53, 54, 55, 56, 57, 58, 59, 60, 12, 13, 14, 61, 62, 63, 64, 65, 66, 67, 68, 69, 70] (by decide +kernel) (by decide +kernel)
set_option maxRecDepth 20000 in
theorem gX0_placeBehind_X0_placeReached : GoodIn wsX0_placeBehind (wsV RX0 131 RX0 yX0_placeReached wsX0_placeReached) := goodIn_app (goodIn_of _ (by decide +kernel)) ggX0_placeBehind_X0_placeReached
theorem dX0_placeBehind_0 : decode cX0_placeBehind 0 = .ok (.iload_n 1, 1) := by decide +kernel
theorem dX0_placeBehind_1 : decode cX0_placeBehind 1 = .ok (.invokestatic 85, 3) := by decide +kernel
theorem dX0_placeBehind_4 : decode cX0_placeBehind 4 = .ok (.iload_n 2, 1) := by decide +kernel
theorem dX0_placeBehind_5 : decode cX0_placeBehind 5 = .ok (.iload_n 3, 1) := by decide +kernel
theorem dX0_placeBehind_6 : decode cX0_placeBehind 6 = .ok (.invokestatic 91, 3) := by decide +kernel
theorem dX0_placeBehind_9 : decode cX0_placeBehind 9 = .ok (.iload 4, 2) := by decide +kernel
theorem dX0_placeBehind_11 : decode cX0_placeBehind 11 = .ok (.ifCond .lt 10, 3) := by decide +kernel
theorem dX0_placeBehind_14 : decode cX0_placeBehind 14 = .ok (.iload 4, 2) := by decide +kernel
theorem dX0_placeBehind_16 : decode cX0_placeBehind 16 = .ok (.bipush 30, 2) := by decide +kernel
theorem dX0_placeBehind_18 : decode cX0_placeBehind 18 = .ok (.if_icmp .le 13, 3) := by decide +kernel
theorem dX0_placeBehind_21 : decode cX0_placeBehind 21 = .ok (.new 71, 3) := by decide +kernel
theorem dX0_placeBehind_24 : decode cX0_placeBehind 24 = .ok (.dup, 1) := by decide +kernel
theorem dX0_placeBehind_25 : decode cX0_placeBehind 25 = .ok (.ldc 129, 2) := by decide +kernel
theorem dX0_placeBehind_27 : decode cX0_placeBehind 27 = .ok (.invokespecial 75, 3) := by decide +kernel
theorem dX0_placeBehind_30 : decode cX0_placeBehind 30 = .ok (.athrow, 1) := by decide +kernel
theorem dX0_placeBehind_31 : decode cX0_placeBehind 31 = .ok (.aload_n 0, 1) := by decide +kernel
theorem dX0_placeBehind_32 : decode cX0_placeBehind 32 = .ok (.iload_n 1, 1) := by decide +kernel
theorem dX0_placeBehind_33 : decode cX0_placeBehind 33 = .ok (.iload_n 2, 1) := by decide +kernel
theorem dX0_placeBehind_34 : decode cX0_placeBehind 34 = .ok (.iload_n 3, 1) := by decide +kernel
theorem dX0_placeBehind_35 : decode cX0_placeBehind 35 = .ok (.invokestatic 94, 3) := by decide +kernel
theorem dX0_placeBehind_38 : decode cX0_placeBehind 38 = .ok (.iload 4, 2) := by decide +kernel
theorem dX0_placeBehind_40 : decode cX0_placeBehind 40 = .ok (.invokevirtual 131, 3) := by decide +kernel
theorem dX0_placeBehind_43 : decode cX0_placeBehind 43 = .ok (.ireturn, 1) := by decide +kernel
theorem dX0_requireGlyph_0 : decode cX0_requireGlyph 0 = .ok (.iload_n 0, 1) := by decide +kernel
theorem dX0_requireGlyph_1 : decode cX0_requireGlyph 1 = .ok (.ifCond .lt 9, 3) := by decide +kernel
theorem dX0_requireGlyph_4 : decode cX0_requireGlyph 4 = .ok (.iload_n 0, 1) := by decide +kernel
theorem dX0_requireGlyph_5 : decode cX0_requireGlyph 5 = .ok (.bipush 8, 2) := by decide +kernel
theorem dX0_requireGlyph_7 : decode cX0_requireGlyph 7 = .ok (.if_icmp .lt 13, 3) := by decide +kernel
theorem dX0_requireGlyph_10 : decode cX0_requireGlyph 10 = .ok (.new 135, 3) := by decide +kernel
theorem dX0_requireGlyph_13 : decode cX0_requireGlyph 13 = .ok (.dup, 1) := by decide +kernel
theorem dX0_requireGlyph_14 : decode cX0_requireGlyph 14 = .ok (.ldc 137, 2) := by decide +kernel
theorem dX0_requireGlyph_16 : decode cX0_requireGlyph 16 = .ok (.invokespecial 139, 3) := by decide +kernel
theorem dX0_requireGlyph_19 : decode cX0_requireGlyph 19 = .ok (.athrow, 1) := by decide +kernel
theorem dX0_requireGlyph_20 : decode cX0_requireGlyph 20 = .ok (.return_, 1) := by decide +kernel
theorem dX0_requirePlace_0 : decode cX0_requirePlace 0 = .ok (.iload_n 0, 1) := by decide +kernel
theorem dX0_requirePlace_1 : decode cX0_requirePlace 1 = .ok (.ifCond .lt 9, 3) := by decide +kernel
theorem dX0_requirePlace_4 : decode cX0_requirePlace 4 = .ok (.iload_n 0, 1) := by decide +kernel
theorem dX0_requirePlace_5 : decode cX0_requirePlace 5 = .ok (.bipush 8, 2) := by decide +kernel
theorem dX0_requirePlace_7 : decode cX0_requirePlace 7 = .ok (.if_icmp .lt 13, 3) := by decide +kernel
theorem dX0_requirePlace_10 : decode cX0_requirePlace 10 = .ok (.new 135, 3) := by decide +kernel
theorem dX0_requirePlace_13 : decode cX0_requirePlace 13 = .ok (.dup, 1) := by decide +kernel
theorem dX0_requirePlace_14 : decode cX0_requirePlace 14 = .ok (.ldc 140, 2) := by decide +kernel
theorem dX0_requirePlace_16 : decode cX0_requirePlace 16 = .ok (.invokespecial 139, 3) := by decide +kernel
theorem dX0_requirePlace_19 : decode cX0_requirePlace 19 = .ok (.athrow, 1) := by decide +kernel
theorem dX0_requirePlace_20 : decode cX0_requirePlace 20 = .ok (.return_, 1) := by decide +kernel
set_option maxRecDepth 20000 in
theorem ggX0_requireExit_X0_requirePlace : GoodIn wsX0_requireExit wsX0_requirePlace := goodIn_ca (goodIn_r _ [6, 1, 2] (by decide +kernel) (by decide +kernel)) (goodIn_sub (fun _ h => List.mem_cons_of_mem _ (List.mem_append_right _ h)) (by decide +kernel))
set_option maxRecDepth 20000 in
theorem gX0_requireExit_X0_requirePlace : GoodIn wsX0_requireExit (va_wsS RX0 85 yX0_requirePlace wsX0_requirePlace) := goodIn_app (goodIn_of _ (by decide +kernel)) ggX0_requireExit_X0_requirePlace
theorem dX0_requireExit_0 : decode cX0_requireExit 0 = .ok (.iload_n 0, 1) := by decide +kernel
theorem dX0_requireExit_1 : decode cX0_requireExit 1 = .ok (.invokestatic 85, 3) := by decide +kernel
theorem dX0_requireExit_4 : decode cX0_requireExit 4 = .ok (.iload_n 1, 1) := by decide +kernel
theorem dX0_requireExit_5 : decode cX0_requireExit 5 = .ok (.ifCond .lt 8, 3) := by decide +kernel
theorem dX0_requireExit_8 : decode cX0_requireExit 8 = .ok (.iload_n 1, 1) := by decide +kernel
theorem dX0_requireExit_9 : decode cX0_requireExit 9 = .ok (.iconst 4, 1) := by decide +kernel
theorem dX0_requireExit_10 : decode cX0_requireExit 10 = .ok (.if_icmp .lt 13, 3) := by decide +kernel
theorem dX0_requireExit_13 : decode cX0_requireExit 13 = .ok (.new 135, 3) := by decide +kernel
theorem dX0_requireExit_16 : decode cX0_requireExit 16 = .ok (.dup, 1) := by decide +kernel
theorem dX0_requireExit_17 : decode cX0_requireExit 17 = .ok (.ldc 142, 2) := by decide +kernel
theorem dX0_requireExit_19 : decode cX0_requireExit 19 = .ok (.invokespecial 139, 3) := by decide +kernel
theorem dX0_requireExit_22 : decode cX0_requireExit 22 = .ok (.athrow, 1) := by decide +kernel
theorem dX0_requireExit_23 : decode cX0_requireExit 23 = .ok (.return_, 1) := by decide +kernel
theorem dX0_requireText_0 : decode cX0_requireText 0 = .ok (.iload_n 1, 1) := by decide +kernel
theorem dX0_requireText_1 : decode cX0_requireText 1 = .ok (.iconst 1, 1) := by decide +kernel
theorem dX0_requireText_2 : decode cX0_requireText 2 = .ok (.if_icmp .lt 8, 3) := by decide +kernel
theorem dX0_requireText_5 : decode cX0_requireText 5 = .ok (.iload_n 1, 1) := by decide +kernel
theorem dX0_requireText_6 : decode cX0_requireText 6 = .ok (.iconst 5, 1) := by decide +kernel
theorem dX0_requireText_7 : decode cX0_requireText 7 = .ok (.if_icmp .le 13, 3) := by decide +kernel
theorem dX0_requireText_10 : decode cX0_requireText 10 = .ok (.new 71, 3) := by decide +kernel
theorem dX0_requireText_13 : decode cX0_requireText 13 = .ok (.dup, 1) := by decide +kernel
theorem dX0_requireText_14 : decode cX0_requireText 14 = .ok (.ldc 144, 2) := by decide +kernel
theorem dX0_requireText_16 : decode cX0_requireText 16 = .ok (.invokespecial 75, 3) := by decide +kernel
theorem dX0_requireText_19 : decode cX0_requireText 19 = .ok (.athrow, 1) := by decide +kernel
theorem dX0_requireText_20 : decode cX0_requireText 20 = .ok (.iload_n 0, 1) := by decide +kernel
theorem dX0_requireText_21 : decode cX0_requireText 21 = .ok (.ifCond .lt 12, 3) := by decide +kernel
theorem dX0_requireText_24 : decode cX0_requireText 24 = .ok (.iload_n 0, 1) := by decide +kernel
theorem dX0_requireText_25 : decode cX0_requireText 25 = .ok (.iconst 1, 1) := by decide +kernel
theorem dX0_requireText_26 : decode cX0_requireText 26 = .ok (.iconst 3, 1) := by decide +kernel
theorem dX0_requireText_27 : decode cX0_requireText 27 = .ok (.iload_n 1, 1) := by decide +kernel
theorem dX0_requireText_28 : decode cX0_requireText 28 = .ok (.imul, 1) := by decide +kernel
theorem dX0_requireText_29 : decode cX0_requireText 29 = .ok (.ishl, 1) := by decide +kernel
theorem dX0_requireText_30 : decode cX0_requireText 30 = .ok (.if_icmp .lt 13, 3) := by decide +kernel
theorem dX0_requireText_33 : decode cX0_requireText 33 = .ok (.new 71, 3) := by decide +kernel
theorem dX0_requireText_36 : decode cX0_requireText 36 = .ok (.dup, 1) := by decide +kernel
theorem dX0_requireText_37 : decode cX0_requireText 37 = .ok (.ldc 146, 2) := by decide +kernel
theorem dX0_requireText_39 : decode cX0_requireText 39 = .ok (.invokespecial 75, 3) := by decide +kernel
theorem dX0_requireText_42 : decode cX0_requireText 42 = .ok (.athrow, 1) := by decide +kernel
theorem dX0_requireText_43 : decode cX0_requireText 43 = .ok (.return_, 1) := by decide +kernel
set_option maxRecDepth 20000 in
theorem ggX0_requireLine_X0_isCell : GoodIn wsX0_requireLine wsX0_isCell := goodIn_r _ [10] (by decide +kernel) (by decide +kernel)
set_option maxRecDepth 20000 in
theorem gX0_requireLine_X0_isCell : GoodIn wsX0_requireLine (va_wsS RX0 148 yX0_isCell wsX0_isCell) := goodIn_app (goodIn_of _ (by decide +kernel)) ggX0_requireLine_X0_isCell
theorem dX0_requireLine_0 : decode cX0_requireLine 0 = .ok (.iload_n 0, 1) := by decide +kernel
theorem dX0_requireLine_1 : decode cX0_requireLine 1 = .ok (.iload_n 1, 1) := by decide +kernel
theorem dX0_requireLine_2 : decode cX0_requireLine 2 = .ok (.invokestatic 148, 3) := by decide +kernel
theorem dX0_requireLine_5 : decode cX0_requireLine 5 = .ok (.ifCond .eq 11, 3) := by decide +kernel
theorem dX0_requireLine_8 : decode cX0_requireLine 8 = .ok (.iload_n 2, 1) := by decide +kernel
theorem dX0_requireLine_9 : decode cX0_requireLine 9 = .ok (.iload_n 3, 1) := by decide +kernel
theorem dX0_requireLine_10 : decode cX0_requireLine 10 = .ok (.invokestatic 148, 3) := by decide +kernel
theorem dX0_requireLine_13 : decode cX0_requireLine 13 = .ok (.ifCond .ne 13, 3) := by decide +kernel
theorem dX0_requireLine_16 : decode cX0_requireLine 16 = .ok (.new 71, 3) := by decide +kernel
theorem dX0_requireLine_19 : decode cX0_requireLine 19 = .ok (.dup, 1) := by decide +kernel
theorem dX0_requireLine_20 : decode cX0_requireLine 20 = .ok (.ldc 152, 2) := by decide +kernel
theorem dX0_requireLine_22 : decode cX0_requireLine 22 = .ok (.invokespecial 75, 3) := by decide +kernel
theorem dX0_requireLine_25 : decode cX0_requireLine 25 = .ok (.athrow, 1) := by decide +kernel
theorem dX0_requireLine_26 : decode cX0_requireLine 26 = .ok (.iload_n 2, 1) := by decide +kernel
theorem dX0_requireLine_27 : decode cX0_requireLine 27 = .ok (.iload_n 0, 1) := by decide +kernel
theorem dX0_requireLine_28 : decode cX0_requireLine 28 = .ok (.isub, 1) := by decide +kernel
theorem dX0_requireLine_29 : decode cX0_requireLine 29 = .ok (.invokestatic 154, 3) := by decide +kernel
theorem dX0_requireLine_32 : decode cX0_requireLine 32 = .ok (.istore 4, 2) := by decide +kernel
theorem dX0_requireLine_34 : decode cX0_requireLine 34 = .ok (.iload_n 3, 1) := by decide +kernel
theorem dX0_requireLine_35 : decode cX0_requireLine 35 = .ok (.iload_n 1, 1) := by decide +kernel
theorem dX0_requireLine_36 : decode cX0_requireLine 36 = .ok (.isub, 1) := by decide +kernel
theorem dX0_requireLine_37 : decode cX0_requireLine 37 = .ok (.invokestatic 154, 3) := by decide +kernel
theorem dX0_requireLine_40 : decode cX0_requireLine 40 = .ok (.istore 5, 2) := by decide +kernel
theorem dX0_requireLine_42 : decode cX0_requireLine 42 = .ok (.iload 4, 2) := by decide +kernel
theorem dX0_requireLine_44 : decode cX0_requireLine 44 = .ok (.ifCond .eq 25, 3) := by decide +kernel
theorem dX0_requireLine_47 : decode cX0_requireLine 47 = .ok (.iload 5, 2) := by decide +kernel
theorem dX0_requireLine_49 : decode cX0_requireLine 49 = .ok (.ifCond .eq 20, 3) := by decide +kernel
theorem dX0_requireLine_52 : decode cX0_requireLine 52 = .ok (.iload 4, 2) := by decide +kernel
theorem dX0_requireLine_54 : decode cX0_requireLine 54 = .ok (.iload 5, 2) := by decide +kernel
theorem dX0_requireLine_56 : decode cX0_requireLine 56 = .ok (.if_icmp .eq 13, 3) := by decide +kernel
theorem dX0_requireLine_59 : decode cX0_requireLine 59 = .ok (.new 71, 3) := by decide +kernel
theorem dX0_requireLine_62 : decode cX0_requireLine 62 = .ok (.dup, 1) := by decide +kernel
theorem dX0_requireLine_63 : decode cX0_requireLine 63 = .ok (.ldc 159, 2) := by decide +kernel
theorem dX0_requireLine_65 : decode cX0_requireLine 65 = .ok (.invokespecial 75, 3) := by decide +kernel
theorem dX0_requireLine_68 : decode cX0_requireLine 68 = .ok (.athrow, 1) := by decide +kernel
theorem dX0_requireLine_69 : decode cX0_requireLine 69 = .ok (.return_, 1) := by decide +kernel
theorem dX0_isCell_0 : decode cX0_isCell 0 = .ok (.iload_n 0, 1) := by decide +kernel
theorem dX0_isCell_1 : decode cX0_isCell 1 = .ok (.ifCond .lt 21, 3) := by decide +kernel
theorem dX0_isCell_4 : decode cX0_isCell 4 = .ok (.iload_n 0, 1) := by decide +kernel
theorem dX0_isCell_5 : decode cX0_isCell 5 = .ok (.iconst 5, 1) := by decide +kernel
theorem dX0_isCell_6 : decode cX0_isCell 6 = .ok (.if_icmp .ge 16, 3) := by decide +kernel
theorem dX0_isCell_9 : decode cX0_isCell 9 = .ok (.iload_n 1, 1) := by decide +kernel
theorem dX0_isCell_10 : decode cX0_isCell 10 = .ok (.ifCond .lt 12, 3) := by decide +kernel
theorem dX0_isCell_13 : decode cX0_isCell 13 = .ok (.iload_n 1, 1) := by decide +kernel
theorem dX0_isCell_14 : decode cX0_isCell 14 = .ok (.iconst 5, 1) := by decide +kernel
theorem dX0_isCell_15 : decode cX0_isCell 15 = .ok (.if_icmp .ge 7, 3) := by decide +kernel
theorem dX0_isCell_18 : decode cX0_isCell 18 = .ok (.iconst 1, 1) := by decide +kernel
theorem dX0_isCell_19 : decode cX0_isCell 19 = .ok (.goto 4, 3) := by decide +kernel
theorem dX0_isCell_22 : decode cX0_isCell 22 = .ok (.iconst 0, 1) := by decide +kernel
theorem dX0_isCell_23 : decode cX0_isCell 23 = .ok (.ireturn, 1) := by decide +kernel
set_option maxRecDepth 20000 in
theorem ggX0_lineCells_X0_direction : GoodIn wsX0_lineCells wsX0_direction := goodIn_r _ [11] (by decide +kernel) (by decide +kernel)
set_option maxRecDepth 20000 in
theorem gX0_lineCells_X0_direction : GoodIn wsX0_lineCells (va_wsS RX0 164 yX0_direction wsX0_direction) := goodIn_app (goodIn_of _ (by decide +kernel)) ggX0_lineCells_X0_direction
theorem dX0_lineCells_0 : decode cX0_lineCells 0 = .ok (.iload_n 2, 1) := by decide +kernel
theorem dX0_lineCells_1 : decode cX0_lineCells 1 = .ok (.iload_n 0, 1) := by decide +kernel
theorem dX0_lineCells_2 : decode cX0_lineCells 2 = .ok (.isub, 1) := by decide +kernel
theorem dX0_lineCells_3 : decode cX0_lineCells 3 = .ok (.invokestatic 154, 3) := by decide +kernel
theorem dX0_lineCells_6 : decode cX0_lineCells 6 = .ok (.iload_n 3, 1) := by decide +kernel
theorem dX0_lineCells_7 : decode cX0_lineCells 7 = .ok (.iload_n 1, 1) := by decide +kernel
theorem dX0_lineCells_8 : decode cX0_lineCells 8 = .ok (.isub, 1) := by decide +kernel
theorem dX0_lineCells_9 : decode cX0_lineCells 9 = .ok (.invokestatic 154, 3) := by decide +kernel
theorem dX0_lineCells_12 : decode cX0_lineCells 12 = .ok (.invokestatic 161, 3) := by decide +kernel
theorem dX0_lineCells_15 : decode cX0_lineCells 15 = .ok (.istore 4, 2) := by decide +kernel
theorem dX0_lineCells_17 : decode cX0_lineCells 17 = .ok (.iload_n 0, 1) := by decide +kernel
theorem dX0_lineCells_18 : decode cX0_lineCells 18 = .ok (.iload_n 2, 1) := by decide +kernel
theorem dX0_lineCells_19 : decode cX0_lineCells 19 = .ok (.invokestatic 164, 3) := by decide +kernel
theorem dX0_lineCells_22 : decode cX0_lineCells 22 = .ok (.istore 5, 2) := by decide +kernel
theorem dX0_lineCells_24 : decode cX0_lineCells 24 = .ok (.iload_n 1, 1) := by decide +kernel
theorem dX0_lineCells_25 : decode cX0_lineCells 25 = .ok (.iload_n 3, 1) := by decide +kernel
theorem dX0_lineCells_26 : decode cX0_lineCells 26 = .ok (.invokestatic 164, 3) := by decide +kernel
theorem dX0_lineCells_29 : decode cX0_lineCells 29 = .ok (.istore 6, 2) := by decide +kernel
theorem dX0_lineCells_31 : decode cX0_lineCells 31 = .ok (.iconst 0, 1) := by decide +kernel
theorem dX0_lineCells_32 : decode cX0_lineCells 32 = .ok (.istore 7, 2) := by decide +kernel
theorem dX0_lineCells_34 : decode cX0_lineCells 34 = .ok (.iconst 0, 1) := by decide +kernel
theorem dX0_lineCells_35 : decode cX0_lineCells 35 = .ok (.istore 8, 2) := by decide +kernel
theorem dX0_lineCells_37 : decode cX0_lineCells 37 = .ok (.iload 8, 2) := by decide +kernel
theorem dX0_lineCells_39 : decode cX0_lineCells 39 = .ok (.iload 4, 2) := by decide +kernel
theorem dX0_lineCells_41 : decode cX0_lineCells 41 = .ok (.if_icmp .gt 33, 3) := by decide +kernel
theorem dX0_lineCells_44 : decode cX0_lineCells 44 = .ok (.iload 7, 2) := by decide +kernel
theorem dX0_lineCells_46 : decode cX0_lineCells 46 = .ok (.iconst 1, 1) := by decide +kernel
theorem dX0_lineCells_47 : decode cX0_lineCells 47 = .ok (.iload_n 1, 1) := by decide +kernel
theorem dX0_lineCells_48 : decode cX0_lineCells 48 = .ok (.iload 8, 2) := by decide +kernel
theorem dX0_lineCells_50 : decode cX0_lineCells 50 = .ok (.iload 6, 2) := by decide +kernel
theorem dX0_lineCells_52 : decode cX0_lineCells 52 = .ok (.imul, 1) := by decide +kernel
theorem dX0_lineCells_53 : decode cX0_lineCells 53 = .ok (.iadd, 1) := by decide +kernel
theorem dX0_lineCells_54 : decode cX0_lineCells 54 = .ok (.iconst 5, 1) := by decide +kernel
theorem dX0_lineCells_55 : decode cX0_lineCells 55 = .ok (.imul, 1) := by decide +kernel
theorem dX0_lineCells_56 : decode cX0_lineCells 56 = .ok (.iload_n 0, 1) := by decide +kernel
theorem dX0_lineCells_57 : decode cX0_lineCells 57 = .ok (.iadd, 1) := by decide +kernel
theorem dX0_lineCells_58 : decode cX0_lineCells 58 = .ok (.iload 8, 2) := by decide +kernel
theorem dX0_lineCells_60 : decode cX0_lineCells 60 = .ok (.iload 5, 2) := by decide +kernel
theorem dX0_lineCells_62 : decode cX0_lineCells 62 = .ok (.imul, 1) := by decide +kernel
theorem dX0_lineCells_63 : decode cX0_lineCells 63 = .ok (.iadd, 1) := by decide +kernel
theorem dX0_lineCells_64 : decode cX0_lineCells 64 = .ok (.ishl, 1) := by decide +kernel
theorem dX0_lineCells_65 : decode cX0_lineCells 65 = .ok (.ior, 1) := by decide +kernel
theorem dX0_lineCells_66 : decode cX0_lineCells 66 = .ok (.istore 7, 2) := by decide +kernel
theorem dX0_lineCells_68 : decode cX0_lineCells 68 = .ok (.iinc 8 1, 3) := by decide +kernel
theorem dX0_lineCells_71 : decode cX0_lineCells 71 = .ok (.goto (-34), 3) := by decide +kernel
theorem dX0_lineCells_74 : decode cX0_lineCells 74 = .ok (.iload 7, 2) := by decide +kernel
theorem dX0_lineCells_76 : decode cX0_lineCells 76 = .ok (.ireturn, 1) := by decide +kernel
theorem dX0_direction_0 : decode cX0_direction 0 = .ok (.iload_n 1, 1) := by decide +kernel
theorem dX0_direction_1 : decode cX0_direction 1 = .ok (.iload_n 0, 1) := by decide +kernel
theorem dX0_direction_2 : decode cX0_direction 2 = .ok (.if_icmp .le 7, 3) := by decide +kernel
theorem dX0_direction_5 : decode cX0_direction 5 = .ok (.iconst 1, 1) := by decide +kernel
theorem dX0_direction_6 : decode cX0_direction 6 = .ok (.goto 13, 3) := by decide +kernel
theorem dX0_direction_9 : decode cX0_direction 9 = .ok (.iload_n 1, 1) := by decide +kernel
theorem dX0_direction_10 : decode cX0_direction 10 = .ok (.iload_n 0, 1) := by decide +kernel
theorem dX0_direction_11 : decode cX0_direction 11 = .ok (.if_icmp .ge 7, 3) := by decide +kernel
theorem dX0_direction_14 : decode cX0_direction 14 = .ok (.iconst (-1), 1) := by decide +kernel
theorem dX0_direction_15 : decode cX0_direction 15 = .ok (.goto 4, 3) := by decide +kernel
theorem dX0_direction_18 : decode cX0_direction 18 = .ok (.iconst 0, 1) := by decide +kernel
theorem dX0_direction_19 : decode cX0_direction 19 = .ok (.ireturn, 1) := by decide +kernel
set_option maxRecDepth 20000 in
theorem ggX0_differing_J6_bitCount_0f7a4 : GoodIn wsX0_differing wsJ6_bitCount_0f7a4 := goodIn_r _ [4, 5, 6, 7] (by decide +kernel) (by decide +kernel)
set_option maxRecDepth 20000 in
theorem gX0_differing_J6_bitCount_0f7a4 : GoodIn wsX0_differing (va_wsS RX0 167 yJ6_bitCount_0f7a4 wsJ6_bitCount_0f7a4) := goodIn_app (goodIn_of _ (by decide +kernel)) ggX0_differing_J6_bitCount_0f7a4
theorem dX0_differing_0 : decode cX0_differing 0 = .ok (.iload_n 0, 1) := by decide +kernel
theorem dX0_differing_1 : decode cX0_differing 1 = .ok (.iload_n 1, 1) := by decide +kernel
theorem dX0_differing_2 : decode cX0_differing 2 = .ok (.ixor, 1) := by decide +kernel
theorem dX0_differing_3 : decode cX0_differing 3 = .ok (.invokestatic 167, 3) := by decide +kernel
theorem dX0_differing_6 : decode cX0_differing 6 = .ok (.ireturn, 1) := by decide +kernel
set_option maxRecDepth 20000 in
theorem ggX0_shapeWidth_X0_hasColumn : GoodIn wsX0_shapeWidth wsX0_hasColumn := goodIn_r _ [4, 5, 6, 3, 7, 8, 9, 10, 11, 12, 13, 14, 15, 16, 17] (by decide +kernel) (by decide +kernel)
set_option maxRecDepth 20000 in
theorem gX0_shapeWidth_X0_hasColumn : GoodIn wsX0_shapeWidth (va_wsS RX0 172 yX0_hasColumn wsX0_hasColumn) := goodIn_app (goodIn_of _ (by decide +kernel)) ggX0_shapeWidth_X0_hasColumn
theorem dX0_shapeWidth_0 : decode cX0_shapeWidth 0 = .ok (.iconst (-1), 1) := by decide +kernel
theorem dX0_shapeWidth_1 : decode cX0_shapeWidth 1 = .ok (.istore_n 1, 1) := by decide +kernel
theorem dX0_shapeWidth_2 : decode cX0_shapeWidth 2 = .ok (.iconst (-1), 1) := by decide +kernel
theorem dX0_shapeWidth_3 : decode cX0_shapeWidth 3 = .ok (.istore_n 2, 1) := by decide +kernel
theorem dX0_shapeWidth_4 : decode cX0_shapeWidth 4 = .ok (.iconst 0, 1) := by decide +kernel
theorem dX0_shapeWidth_5 : decode cX0_shapeWidth 5 = .ok (.istore_n 3, 1) := by decide +kernel
theorem dX0_shapeWidth_6 : decode cX0_shapeWidth 6 = .ok (.iload_n 3, 1) := by decide +kernel
theorem dX0_shapeWidth_7 : decode cX0_shapeWidth 7 = .ok (.iconst 5, 1) := by decide +kernel
theorem dX0_shapeWidth_8 : decode cX0_shapeWidth 8 = .ok (.if_icmp .ge 30, 3) := by decide +kernel
theorem dX0_shapeWidth_11 : decode cX0_shapeWidth 11 = .ok (.iload_n 0, 1) := by decide +kernel
theorem dX0_shapeWidth_12 : decode cX0_shapeWidth 12 = .ok (.iload_n 3, 1) := by decide +kernel
theorem dX0_shapeWidth_13 : decode cX0_shapeWidth 13 = .ok (.invokestatic 172, 3) := by decide +kernel
theorem dX0_shapeWidth_16 : decode cX0_shapeWidth 16 = .ok (.ifCond .eq 16, 3) := by decide +kernel
theorem dX0_shapeWidth_19 : decode cX0_shapeWidth 19 = .ok (.iload_n 1, 1) := by decide +kernel
theorem dX0_shapeWidth_20 : decode cX0_shapeWidth 20 = .ok (.iconst (-1), 1) := by decide +kernel
theorem dX0_shapeWidth_21 : decode cX0_shapeWidth 21 = .ok (.if_icmp .ne 7, 3) := by decide +kernel
theorem dX0_shapeWidth_24 : decode cX0_shapeWidth 24 = .ok (.iload_n 3, 1) := by decide +kernel
theorem dX0_shapeWidth_25 : decode cX0_shapeWidth 25 = .ok (.goto 4, 3) := by decide +kernel
theorem dX0_shapeWidth_28 : decode cX0_shapeWidth 28 = .ok (.iload_n 1, 1) := by decide +kernel
theorem dX0_shapeWidth_29 : decode cX0_shapeWidth 29 = .ok (.istore_n 1, 1) := by decide +kernel
theorem dX0_shapeWidth_30 : decode cX0_shapeWidth 30 = .ok (.iload_n 3, 1) := by decide +kernel
theorem dX0_shapeWidth_31 : decode cX0_shapeWidth 31 = .ok (.istore_n 2, 1) := by decide +kernel
theorem dX0_shapeWidth_32 : decode cX0_shapeWidth 32 = .ok (.iinc 3 1, 3) := by decide +kernel
theorem dX0_shapeWidth_35 : decode cX0_shapeWidth 35 = .ok (.goto (-29), 3) := by decide +kernel
theorem dX0_shapeWidth_38 : decode cX0_shapeWidth 38 = .ok (.iload_n 1, 1) := by decide +kernel
theorem dX0_shapeWidth_39 : decode cX0_shapeWidth 39 = .ok (.iconst (-1), 1) := by decide +kernel
theorem dX0_shapeWidth_40 : decode cX0_shapeWidth 40 = .ok (.if_icmp .ne 7, 3) := by decide +kernel
theorem dX0_shapeWidth_43 : decode cX0_shapeWidth 43 = .ok (.iconst 2, 1) := by decide +kernel
theorem dX0_shapeWidth_44 : decode cX0_shapeWidth 44 = .ok (.goto 8, 3) := by decide +kernel
theorem dX0_shapeWidth_47 : decode cX0_shapeWidth 47 = .ok (.iload_n 2, 1) := by decide +kernel
theorem dX0_shapeWidth_48 : decode cX0_shapeWidth 48 = .ok (.iload_n 1, 1) := by decide +kernel
theorem dX0_shapeWidth_49 : decode cX0_shapeWidth 49 = .ok (.isub, 1) := by decide +kernel
theorem dX0_shapeWidth_50 : decode cX0_shapeWidth 50 = .ok (.iconst 1, 1) := by decide +kernel
theorem dX0_shapeWidth_51 : decode cX0_shapeWidth 51 = .ok (.iadd, 1) := by decide +kernel
theorem dX0_shapeWidth_52 : decode cX0_shapeWidth 52 = .ok (.ireturn, 1) := by decide +kernel
set_option maxRecDepth 20000 in
theorem ggX0_hasColumn_X0_lineCells : GoodIn wsX0_hasColumn wsX0_lineCells := goodIn_r _ [4, 5, 6, 7, 8, 9, 10, 11, 12, 13, 3, 14] (by decide +kernel) (by decide +kernel)
set_option maxRecDepth 20000 in
theorem gX0_hasColumn_X0_lineCells : GoodIn wsX0_hasColumn (va_wsS RX0 56 yX0_lineCells wsX0_lineCells) := goodIn_app (goodIn_of _ (by decide +kernel)) ggX0_hasColumn_X0_lineCells
theorem dX0_hasColumn_0 : decode cX0_hasColumn 0 = .ok (.iload_n 0, 1) := by decide +kernel
theorem dX0_hasColumn_1 : decode cX0_hasColumn 1 = .ok (.iload_n 1, 1) := by decide +kernel
theorem dX0_hasColumn_2 : decode cX0_hasColumn 2 = .ok (.iconst 0, 1) := by decide +kernel
theorem dX0_hasColumn_3 : decode cX0_hasColumn 3 = .ok (.iload_n 1, 1) := by decide +kernel
theorem dX0_hasColumn_4 : decode cX0_hasColumn 4 = .ok (.iconst 4, 1) := by decide +kernel
theorem dX0_hasColumn_5 : decode cX0_hasColumn 5 = .ok (.invokestatic 56, 3) := by decide +kernel
theorem dX0_hasColumn_8 : decode cX0_hasColumn 8 = .ok (.iand, 1) := by decide +kernel
theorem dX0_hasColumn_9 : decode cX0_hasColumn 9 = .ok (.ifCond .eq 7, 3) := by decide +kernel
theorem dX0_hasColumn_12 : decode cX0_hasColumn 12 = .ok (.iconst 1, 1) := by decide +kernel
theorem dX0_hasColumn_13 : decode cX0_hasColumn 13 = .ok (.goto 4, 3) := by decide +kernel
theorem dX0_hasColumn_16 : decode cX0_hasColumn 16 = .ok (.iconst 0, 1) := by decide +kernel
theorem dX0_hasColumn_17 : decode cX0_hasColumn 17 = .ok (.ireturn, 1) := by decide +kernel
theorem dX0_pairOf_0 : decode cX0_pairOf 0 = .ok (.iload_n 0, 1) := by decide +kernel
theorem dX0_pairOf_1 : decode cX0_pairOf 1 = .ok (.bipush 8, 2) := by decide +kernel
theorem dX0_pairOf_3 : decode cX0_pairOf 3 = .ok (.imul, 1) := by decide +kernel
theorem dX0_pairOf_4 : decode cX0_pairOf 4 = .ok (.iload_n 1, 1) := by decide +kernel
theorem dX0_pairOf_5 : decode cX0_pairOf 5 = .ok (.iadd, 1) := by decide +kernel
theorem dX0_pairOf_6 : decode cX0_pairOf 6 = .ok (.ireturn, 1) := by decide +kernel
theorem dX0_pack_0 : decode cX0_pack 0 = .ok (.iload_n 1, 1) := by decide +kernel
theorem dX0_pack_1 : decode cX0_pack 1 = .ok (.bipush 15, 2) := by decide +kernel
theorem dX0_pack_3 : decode cX0_pack 3 = .ok (.ishl, 1) := by decide +kernel
theorem dX0_pack_4 : decode cX0_pack 4 = .ok (.iload_n 0, 1) := by decide +kernel
theorem dX0_pack_5 : decode cX0_pack 5 = .ok (.ior, 1) := by decide +kernel
theorem dX0_pack_6 : decode cX0_pack 6 = .ok (.ireturn, 1) := by decide +kernel
theorem dX0_manyOf_0 : decode cX0_manyOf 0 = .ok (.iload_n 0, 1) := by decide +kernel
theorem dX0_manyOf_1 : decode cX0_manyOf 1 = .ok (.bipush 15, 2) := by decide +kernel
theorem dX0_manyOf_3 : decode cX0_manyOf 3 = .ok (.ishr, 1) := by decide +kernel
theorem dX0_manyOf_4 : decode cX0_manyOf 4 = .ok (.ireturn, 1) := by decide +kernel
theorem dX0_numberOf_0 : decode cX0_numberOf 0 = .ok (.iload_n 0, 1) := by decide +kernel
theorem dX0_numberOf_1 : decode cX0_numberOf 1 = .ok (.sipush 32767, 3) := by decide +kernel
theorem dX0_numberOf_4 : decode cX0_numberOf 4 = .ok (.iand, 1) := by decide +kernel
theorem dX0_numberOf_5 : decode cX0_numberOf 5 = .ok (.ireturn, 1) := by decide +kernel
theorem dX0_glyphAt_0 : decode cX0_glyphAt 0 = .ok (.iload_n 0, 1) := by decide +kernel
theorem dX0_glyphAt_1 : decode cX0_glyphAt 1 = .ok (.iconst 3, 1) := by decide +kernel
theorem dX0_glyphAt_2 : decode cX0_glyphAt 2 = .ok (.iload_n 1, 1) := by decide +kernel
theorem dX0_glyphAt_3 : decode cX0_glyphAt 3 = .ok (.imul, 1) := by decide +kernel
theorem dX0_glyphAt_4 : decode cX0_glyphAt 4 = .ok (.ishr, 1) := by decide +kernel
theorem dX0_glyphAt_5 : decode cX0_glyphAt 5 = .ok (.bipush 7, 2) := by decide +kernel
theorem dX0_glyphAt_7 : decode cX0_glyphAt 7 = .ok (.iand, 1) := by decide +kernel
theorem dX0_glyphAt_8 : decode cX0_glyphAt 8 = .ok (.ireturn, 1) := by decide +kernel
set_option maxRecDepth 20000 in
theorem ggX0_packedWidth_X0_manyOf : GoodIn wsX0_packedWidth wsX0_manyOf := goodIn_r _ [6] (by decide +kernel) (by decide +kernel)
set_option maxRecDepth 20000 in
theorem gX0_packedWidth_X0_manyOf : GoodIn wsX0_packedWidth (va_wsS RX0 175 yX0_manyOf wsX0_manyOf) := goodIn_app (goodIn_of _ (by decide +kernel)) ggX0_packedWidth_X0_manyOf
set_option maxRecDepth 20000 in
theorem ggX0_packedWidth_X0_glyphAt : GoodIn wsX0_packedWidth wsX0_glyphAt := goodIn_r _ [9] (by decide +kernel) (by decide +kernel)
set_option maxRecDepth 20000 in
theorem gX0_packedWidth_X0_glyphAt : GoodIn wsX0_packedWidth (va_wsS RX0 178 yX0_glyphAt wsX0_glyphAt) := goodIn_app (goodIn_of _ (by decide +kernel)) ggX0_packedWidth_X0_glyphAt
set_option maxRecDepth 20000 in
theorem ggX0_packedWidth_X0_shapeWidth : GoodIn wsX0_packedWidth wsX0_shapeWidth := goodIn_r _ [12, 13, 14, 5, 15, 16, 17, 18, 19, 20, 21, 22, 23, 24, 25, 26, 27, 28] (by decide +kernel) (by decide +kernel)
set_option maxRecDepth 20000 in
theorem gX0_packedWidth_X0_shapeWidth : GoodIn wsX0_packedWidth (va_wsS RX0 67 yX0_shapeWidth wsX0_shapeWidth) := goodIn_app (goodIn_of _ (by decide +kernel)) ggX0_packedWidth_X0_shapeWidth
set_option maxRecDepth 20000 in
theorem ggX0_packedWidth_X0_pairOf : GoodIn wsX0_packedWidth wsX0_pairOf := goodIn_r _ [31] (by decide +kernel) (by decide +kernel)
set_option maxRecDepth 20000 in
theorem gX0_packedWidth_X0_pairOf : GoodIn wsX0_packedWidth (va_wsS RX0 78 yX0_pairOf wsX0_pairOf) := goodIn_app (goodIn_of _ (by decide +kernel)) ggX0_packedWidth_X0_pairOf
theorem dX0_packedWidth_0 : decode cX0_packedWidth 0 = .ok (.iconst 0, 1) := by decide +kernel
theorem dX0_packedWidth_1 : decode cX0_packedWidth 1 = .ok (.istore_n 2, 1) := by decide +kernel
theorem dX0_packedWidth_2 : decode cX0_packedWidth 2 = .ok (.iconst 0, 1) := by decide +kernel
theorem dX0_packedWidth_3 : decode cX0_packedWidth 3 = .ok (.istore_n 3, 1) := by decide +kernel
theorem dX0_packedWidth_4 : decode cX0_packedWidth 4 = .ok (.iload_n 3, 1) := by decide +kernel
theorem dX0_packedWidth_5 : decode cX0_packedWidth 5 = .ok (.iload_n 1, 1) := by decide +kernel
theorem dX0_packedWidth_6 : decode cX0_packedWidth 6 = .ok (.invokestatic 175, 3) := by decide +kernel
theorem dX0_packedWidth_9 : decode cX0_packedWidth 9 = .ok (.if_icmp .ge 53, 3) := by decide +kernel
theorem dX0_packedWidth_12 : decode cX0_packedWidth 12 = .ok (.iload_n 1, 1) := by decide +kernel
theorem dX0_packedWidth_13 : decode cX0_packedWidth 13 = .ok (.iload_n 3, 1) := by decide +kernel
theorem dX0_packedWidth_14 : decode cX0_packedWidth 14 = .ok (.invokestatic 178, 3) := by decide +kernel
theorem dX0_packedWidth_17 : decode cX0_packedWidth 17 = .ok (.istore 4, 2) := by decide +kernel
theorem dX0_packedWidth_19 : decode cX0_packedWidth 19 = .ok (.iload_n 2, 1) := by decide +kernel
theorem dX0_packedWidth_20 : decode cX0_packedWidth 20 = .ok (.aload_n 0, 1) := by decide +kernel
theorem dX0_packedWidth_21 : decode cX0_packedWidth 21 = .ok (.getfield 9, 3) := by decide +kernel
theorem dX0_packedWidth_24 : decode cX0_packedWidth 24 = .ok (.iload 4, 2) := by decide +kernel
theorem dX0_packedWidth_26 : decode cX0_packedWidth 26 = .ok (.iaload, 1) := by decide +kernel
theorem dX0_packedWidth_27 : decode cX0_packedWidth 27 = .ok (.invokestatic 67, 3) := by decide +kernel
theorem dX0_packedWidth_30 : decode cX0_packedWidth 30 = .ok (.iadd, 1) := by decide +kernel
theorem dX0_packedWidth_31 : decode cX0_packedWidth 31 = .ok (.istore_n 2, 1) := by decide +kernel
theorem dX0_packedWidth_32 : decode cX0_packedWidth 32 = .ok (.iload_n 3, 1) := by decide +kernel
theorem dX0_packedWidth_33 : decode cX0_packedWidth 33 = .ok (.ifCond .le 23, 3) := by decide +kernel
theorem dX0_packedWidth_36 : decode cX0_packedWidth 36 = .ok (.iload_n 2, 1) := by decide +kernel
theorem dX0_packedWidth_37 : decode cX0_packedWidth 37 = .ok (.aload_n 0, 1) := by decide +kernel
theorem dX0_packedWidth_38 : decode cX0_packedWidth 38 = .ok (.getfield 13, 3) := by decide +kernel
theorem dX0_packedWidth_41 : decode cX0_packedWidth 41 = .ok (.iload 4, 2) := by decide +kernel
theorem dX0_packedWidth_43 : decode cX0_packedWidth 43 = .ok (.iload_n 1, 1) := by decide +kernel
theorem dX0_packedWidth_44 : decode cX0_packedWidth 44 = .ok (.iload_n 3, 1) := by decide +kernel
theorem dX0_packedWidth_45 : decode cX0_packedWidth 45 = .ok (.iconst 1, 1) := by decide +kernel
theorem dX0_packedWidth_46 : decode cX0_packedWidth 46 = .ok (.isub, 1) := by decide +kernel
theorem dX0_packedWidth_47 : decode cX0_packedWidth 47 = .ok (.invokestatic 178, 3) := by decide +kernel
theorem dX0_packedWidth_50 : decode cX0_packedWidth 50 = .ok (.invokestatic 78, 3) := by decide +kernel
theorem dX0_packedWidth_53 : decode cX0_packedWidth 53 = .ok (.iaload, 1) := by decide +kernel
theorem dX0_packedWidth_54 : decode cX0_packedWidth 54 = .ok (.iadd, 1) := by decide +kernel
theorem dX0_packedWidth_55 : decode cX0_packedWidth 55 = .ok (.istore_n 2, 1) := by decide +kernel
theorem dX0_packedWidth_56 : decode cX0_packedWidth 56 = .ok (.iinc 3 1, 3) := by decide +kernel
theorem dX0_packedWidth_59 : decode cX0_packedWidth 59 = .ok (.goto (-55), 3) := by decide +kernel
theorem dX0_packedWidth_62 : decode cX0_packedWidth 62 = .ok (.iload_n 2, 1) := by decide +kernel
theorem dX0_packedWidth_63 : decode cX0_packedWidth 63 = .ok (.ireturn, 1) := by decide +kernel
set_option maxRecDepth 20000 in
theorem ggX0_plateFor_X0_packedWidth : GoodIn wsX0_plateFor wsX0_packedWidth := goodIn_r _ [5, 6, 7, 8, 9, 4, 10, 11, 12, 13, 14, 15, 16, 17, 18, 19, 20, 21, 22, 23, 24, 25, 26, 27, 28, 29, 30, 31, 32, 33, 34, 35, 36, 37, 38, 39, 40, 41, 42, 43, 44, 45] (by decide +kernel) (by decide +kernel)
set_option maxRecDepth 20000 in
theorem gX0_plateFor_X0_packedWidth : GoodIn wsX0_plateFor (wsV RX0 97 RX0 yX0_packedWidth wsX0_packedWidth) := goodIn_app (goodIn_of _ (by decide +kernel)) ggX0_plateFor_X0_packedWidth
theorem dX0_plateFor_0 : decode cX0_plateFor 0 = .ok (.aload_n 0, 1) := by decide +kernel
theorem dX0_plateFor_1 : decode cX0_plateFor 1 = .ok (.iload_n 1, 1) := by decide +kernel
theorem dX0_plateFor_2 : decode cX0_plateFor 2 = .ok (.invokevirtual 97, 3) := by decide +kernel
theorem dX0_plateFor_5 : decode cX0_plateFor 5 = .ok (.istore_n 2, 1) := by decide +kernel
theorem dX0_plateFor_6 : decode cX0_plateFor 6 = .ok (.iload_n 2, 1) := by decide +kernel
theorem dX0_plateFor_7 : decode cX0_plateFor 7 = .ok (.bipush 10, 2) := by decide +kernel
theorem dX0_plateFor_9 : decode cX0_plateFor 9 = .ok (.if_icmp .gt 5, 3) := by decide +kernel
theorem dX0_plateFor_12 : decode cX0_plateFor 12 = .ok (.iconst 4, 1) := by decide +kernel
theorem dX0_plateFor_13 : decode cX0_plateFor 13 = .ok (.ireturn, 1) := by decide +kernel
theorem dX0_plateFor_14 : decode cX0_plateFor 14 = .ok (.iload_n 2, 1) := by decide +kernel
theorem dX0_plateFor_15 : decode cX0_plateFor 15 = .ok (.bipush 20, 2) := by decide +kernel
theorem dX0_plateFor_17 : decode cX0_plateFor 17 = .ok (.if_icmp .gt 6, 3) := by decide +kernel
theorem dX0_plateFor_20 : decode cX0_plateFor 20 = .ok (.bipush 7, 2) := by decide +kernel
theorem dX0_plateFor_22 : decode cX0_plateFor 22 = .ok (.ireturn, 1) := by decide +kernel
theorem dX0_plateFor_23 : decode cX0_plateFor 23 = .ok (.iload_n 2, 1) := by decide +kernel
theorem dX0_plateFor_24 : decode cX0_plateFor 24 = .ok (.bipush 30, 2) := by decide +kernel
theorem dX0_plateFor_26 : decode cX0_plateFor 26 = .ok (.if_icmp .gt 8, 3) := by decide +kernel
theorem dX0_plateFor_29 : decode cX0_plateFor 29 = .ok (.bipush 10, 2) := by decide +kernel
theorem dX0_plateFor_31 : decode cX0_plateFor 31 = .ok (.goto 4, 3) := by decide +kernel
theorem dX0_plateFor_34 : decode cX0_plateFor 34 = .ok (.iconst (-1), 1) := by decide +kernel
theorem dX0_plateFor_35 : decode cX0_plateFor 35 = .ok (.ireturn, 1) := by decide +kernel
theorem dX0_wayOf_0 : decode cX0_wayOf 0 = .ok (.iload_n 0, 1) := by decide +kernel
theorem dX0_wayOf_1 : decode cX0_wayOf 1 = .ok (.iconst 4, 1) := by decide +kernel
theorem dX0_wayOf_2 : decode cX0_wayOf 2 = .ok (.imul, 1) := by decide +kernel
theorem dX0_wayOf_3 : decode cX0_wayOf 3 = .ok (.iload_n 1, 1) := by decide +kernel
theorem dX0_wayOf_4 : decode cX0_wayOf 4 = .ok (.iadd, 1) := by decide +kernel
theorem dX0_wayOf_5 : decode cX0_wayOf 5 = .ok (.ireturn, 1) := by decide +kernel
set_option maxRecDepth 20000 in
theorem ggX0_engrave_X0_manyOf : GoodIn wsX0_engrave wsX0_manyOf := goodIn_r _ [8] (by decide +kernel) (by decide +kernel)
set_option maxRecDepth 20000 in
theorem gX0_engrave_X0_manyOf : GoodIn wsX0_engrave (va_wsS RX0 175 yX0_manyOf wsX0_manyOf) := goodIn_app (goodIn_of _ (by decide +kernel)) ggX0_engrave_X0_manyOf
set_option maxRecDepth 20000 in
theorem ggX0_engrave_X0_glyphAt : GoodIn wsX0_engrave wsX0_glyphAt := goodIn_r _ [11] (by decide +kernel) (by decide +kernel)
set_option maxRecDepth 20000 in
theorem gX0_engrave_X0_glyphAt : GoodIn wsX0_engrave (va_wsS RX0 178 yX0_glyphAt wsX0_glyphAt) := goodIn_app (goodIn_of _ (by decide +kernel)) ggX0_engrave_X0_glyphAt
theorem dX0_engrave_0 : decode cX0_engrave 0 = .ok (.aload_n 0, 1) := by decide +kernel
theorem dX0_engrave_1 : decode cX0_engrave 1 = .ok (.getfield 22, 3) := by decide +kernel
theorem dX0_engrave_4 : decode cX0_engrave 4 = .ok (.iload_n 1, 1) := by decide +kernel
theorem dX0_engrave_5 : decode cX0_engrave 5 = .ok (.iaload, 1) := by decide +kernel
theorem dX0_engrave_6 : decode cX0_engrave 6 = .ok (.istore_n 3, 1) := by decide +kernel
theorem dX0_engrave_7 : decode cX0_engrave 7 = .ok (.iconst 0, 1) := by decide +kernel
theorem dX0_engrave_8 : decode cX0_engrave 8 = .ok (.istore 4, 2) := by decide +kernel
theorem dX0_engrave_10 : decode cX0_engrave 10 = .ok (.iload 4, 2) := by decide +kernel
theorem dX0_engrave_12 : decode cX0_engrave 12 = .ok (.iload_n 3, 1) := by decide +kernel
theorem dX0_engrave_13 : decode cX0_engrave 13 = .ok (.invokestatic 175, 3) := by decide +kernel
theorem dX0_engrave_16 : decode cX0_engrave 16 = .ok (.if_icmp .ge 31, 3) := by decide +kernel
theorem dX0_engrave_19 : decode cX0_engrave 19 = .ok (.aload_n 0, 1) := by decide +kernel
theorem dX0_engrave_20 : decode cX0_engrave 20 = .ok (.getfield 28, 3) := by decide +kernel
theorem dX0_engrave_23 : decode cX0_engrave 23 = .ok (.iload_n 1, 1) := by decide +kernel
theorem dX0_engrave_24 : decode cX0_engrave 24 = .ok (.iconst 5, 1) := by decide +kernel
theorem dX0_engrave_25 : decode cX0_engrave 25 = .ok (.imul, 1) := by decide +kernel
theorem dX0_engrave_26 : decode cX0_engrave 26 = .ok (.iload 4, 2) := by decide +kernel
theorem dX0_engrave_28 : decode cX0_engrave 28 = .ok (.iadd, 1) := by decide +kernel
theorem dX0_engrave_29 : decode cX0_engrave 29 = .ok (.aload_n 0, 1) := by decide +kernel
theorem dX0_engrave_30 : decode cX0_engrave 30 = .ok (.getfield 9, 3) := by decide +kernel
theorem dX0_engrave_33 : decode cX0_engrave 33 = .ok (.iload_n 3, 1) := by decide +kernel
theorem dX0_engrave_34 : decode cX0_engrave 34 = .ok (.iload 4, 2) := by decide +kernel
theorem dX0_engrave_36 : decode cX0_engrave 36 = .ok (.invokestatic 178, 3) := by decide +kernel
theorem dX0_engrave_39 : decode cX0_engrave 39 = .ok (.iaload, 1) := by decide +kernel
theorem dX0_engrave_40 : decode cX0_engrave 40 = .ok (.iastore, 1) := by decide +kernel
theorem dX0_engrave_41 : decode cX0_engrave 41 = .ok (.iinc 4 1, 3) := by decide +kernel
theorem dX0_engrave_44 : decode cX0_engrave 44 = .ok (.goto (-34), 3) := by decide +kernel
theorem dX0_engrave_47 : decode cX0_engrave 47 = .ok (.aload_n 0, 1) := by decide +kernel
theorem dX0_engrave_48 : decode cX0_engrave 48 = .ok (.dup, 1) := by decide +kernel
theorem dX0_engrave_49 : decode cX0_engrave 49 = .ok (.getfield 31, 3) := by decide +kernel
theorem dX0_engrave_52 : decode cX0_engrave 52 = .ok (.iload_n 2, 1) := by decide +kernel
theorem dX0_engrave_53 : decode cX0_engrave 53 = .ok (.i2l, 1) := by decide +kernel
theorem dX0_engrave_54 : decode cX0_engrave 54 = .ok (.ladd, 1) := by decide +kernel
theorem dX0_engrave_55 : decode cX0_engrave 55 = .ok (.putfield 31, 3) := by decide +kernel
theorem dX0_engrave_58 : decode cX0_engrave 58 = .ok (.return_, 1) := by decide +kernel
set_option maxRecDepth 20000 in
theorem ggX0_isOutdated_X0_manyOf : GoodIn wsX0_isOutdated wsX0_manyOf := goodIn_r _ [7] (by decide +kernel) (by decide +kernel)
set_option maxRecDepth 20000 in
theorem gX0_isOutdated_X0_manyOf : GoodIn wsX0_isOutdated (va_wsS RX0 175 yX0_manyOf wsX0_manyOf) := goodIn_app (goodIn_of _ (by decide +kernel)) ggX0_isOutdated_X0_manyOf
set_option maxRecDepth 20000 in
theorem ggX0_isOutdated_X0_glyphAt : GoodIn wsX0_isOutdated wsX0_glyphAt := goodIn_r _ [10] (by decide +kernel) (by decide +kernel)
set_option maxRecDepth 20000 in
theorem gX0_isOutdated_X0_glyphAt : GoodIn wsX0_isOutdated (va_wsS RX0 178 yX0_glyphAt wsX0_glyphAt) := goodIn_app (goodIn_of _ (by decide +kernel)) ggX0_isOutdated_X0_glyphAt
theorem dX0_isOutdated_0 : decode cX0_isOutdated 0 = .ok (.aload_n 0, 1) := by decide +kernel
theorem dX0_isOutdated_1 : decode cX0_isOutdated 1 = .ok (.getfield 22, 3) := by decide +kernel
theorem dX0_isOutdated_4 : decode cX0_isOutdated 4 = .ok (.iload_n 1, 1) := by decide +kernel
theorem dX0_isOutdated_5 : decode cX0_isOutdated 5 = .ok (.iaload, 1) := by decide +kernel
theorem dX0_isOutdated_6 : decode cX0_isOutdated 6 = .ok (.istore_n 2, 1) := by decide +kernel
theorem dX0_isOutdated_7 : decode cX0_isOutdated 7 = .ok (.iconst 0, 1) := by decide +kernel
theorem dX0_isOutdated_8 : decode cX0_isOutdated 8 = .ok (.istore_n 3, 1) := by decide +kernel
theorem dX0_isOutdated_9 : decode cX0_isOutdated 9 = .ok (.iload_n 3, 1) := by decide +kernel
theorem dX0_isOutdated_10 : decode cX0_isOutdated 10 = .ok (.iload_n 2, 1) := by decide +kernel
theorem dX0_isOutdated_11 : decode cX0_isOutdated 11 = .ok (.invokestatic 175, 3) := by decide +kernel
theorem dX0_isOutdated_14 : decode cX0_isOutdated 14 = .ok (.if_icmp .ge 34, 3) := by decide +kernel
theorem dX0_isOutdated_17 : decode cX0_isOutdated 17 = .ok (.aload_n 0, 1) := by decide +kernel
theorem dX0_isOutdated_18 : decode cX0_isOutdated 18 = .ok (.getfield 28, 3) := by decide +kernel
theorem dX0_isOutdated_21 : decode cX0_isOutdated 21 = .ok (.iload_n 1, 1) := by decide +kernel
theorem dX0_isOutdated_22 : decode cX0_isOutdated 22 = .ok (.iconst 5, 1) := by decide +kernel
theorem dX0_isOutdated_23 : decode cX0_isOutdated 23 = .ok (.imul, 1) := by decide +kernel
theorem dX0_isOutdated_24 : decode cX0_isOutdated 24 = .ok (.iload_n 3, 1) := by decide +kernel
theorem dX0_isOutdated_25 : decode cX0_isOutdated 25 = .ok (.iadd, 1) := by decide +kernel
theorem dX0_isOutdated_26 : decode cX0_isOutdated 26 = .ok (.iaload, 1) := by decide +kernel
theorem dX0_isOutdated_27 : decode cX0_isOutdated 27 = .ok (.aload_n 0, 1) := by decide +kernel
theorem dX0_isOutdated_28 : decode cX0_isOutdated 28 = .ok (.getfield 9, 3) := by decide +kernel
theorem dX0_isOutdated_31 : decode cX0_isOutdated 31 = .ok (.iload_n 2, 1) := by decide +kernel
theorem dX0_isOutdated_32 : decode cX0_isOutdated 32 = .ok (.iload_n 3, 1) := by decide +kernel
theorem dX0_isOutdated_33 : decode cX0_isOutdated 33 = .ok (.invokestatic 178, 3) := by decide +kernel
theorem dX0_isOutdated_36 : decode cX0_isOutdated 36 = .ok (.iaload, 1) := by decide +kernel
theorem dX0_isOutdated_37 : decode cX0_isOutdated 37 = .ok (.if_icmp .eq 5, 3) := by decide +kernel
theorem dX0_isOutdated_40 : decode cX0_isOutdated 40 = .ok (.iconst 1, 1) := by decide +kernel
theorem dX0_isOutdated_41 : decode cX0_isOutdated 41 = .ok (.ireturn, 1) := by decide +kernel
theorem dX0_isOutdated_42 : decode cX0_isOutdated 42 = .ok (.iinc 3 1, 3) := by decide +kernel
theorem dX0_isOutdated_45 : decode cX0_isOutdated 45 = .ok (.goto (-36), 3) := by decide +kernel
theorem dX0_isOutdated_48 : decode cX0_isOutdated 48 = .ok (.iconst 0, 1) := by decide +kernel
theorem dX0_isOutdated_49 : decode cX0_isOutdated 49 = .ok (.ireturn, 1) := by decide +kernel
set_option maxRecDepth 20000 in
theorem ggX0_requirePlatesForOutdated_X0_isOutdated : GoodIn wsX0_requirePlatesForOutdated wsX0_isOutdated := goodIn_r _ [8, 3, 9, 10, 11, 12, 7, 13, 14, 15, 16, 48, 49, 50, 51, 52, 53, 54, 55, 56, 57] (by decide +kernel) (by decide +kernel)
set_option maxRecDepth 20000 in
theorem gX0_requirePlatesForOutdated_X0_isOutdated : GoodIn wsX0_requirePlatesForOutdated (wsV RX0 113 RX0 yX0_isOutdated wsX0_isOutdated) := goodIn_app (goodIn_of _ (by decide +kernel)) ggX0_requirePlatesForOutdated_X0_isOutdated
set_option maxRecDepth 20000 in
theorem ggX0_requirePlatesForOutdated_X0_plateFor : GoodIn wsX0_requirePlatesForOutdated wsX0_plateFor := goodIn_r _ [20, 21, 22, 23, 7, 24, 10, 25, 11, 12, 13, 14, 15, 16, 26, 27, 28, 29, 30, 31, 32, 33, 34, 35, 36, 37, 38, 39, 40, 41, 42, 43, 44, 45, 46, 47, 48, 49, 50, 51, 52, 53, 54, 55, 56, 57] (by decide +kernel) (by decide +kernel)
set_option maxRecDepth 20000 in
theorem gX0_requirePlatesForOutdated_X0_plateFor : GoodIn wsX0_requirePlatesForOutdated (wsV RX0 102 RX0 yX0_plateFor wsX0_plateFor) := goodIn_app (goodIn_of _ (by decide +kernel)) ggX0_requirePlatesForOutdated_X0_plateFor
theorem dX0_requirePlatesForOutdated_0 : decode cX0_requirePlatesForOutdated 0 = .ok (.iconst 0, 1) := by decide +kernel
theorem dX0_requirePlatesForOutdated_1 : decode cX0_requirePlatesForOutdated 1 = .ok (.istore_n 1, 1) := by decide +kernel
theorem dX0_requirePlatesForOutdated_2 : decode cX0_requirePlatesForOutdated 2 = .ok (.iload_n 1, 1) := by decide +kernel
theorem dX0_requirePlatesForOutdated_3 : decode cX0_requirePlatesForOutdated 3 = .ok (.bipush 32, 2) := by decide +kernel
theorem dX0_requirePlatesForOutdated_5 : decode cX0_requirePlatesForOutdated 5 = .ok (.if_icmp .ge 41, 3) := by decide +kernel
theorem dX0_requirePlatesForOutdated_8 : decode cX0_requirePlatesForOutdated 8 = .ok (.aload_n 0, 1) := by decide +kernel
theorem dX0_requirePlatesForOutdated_9 : decode cX0_requirePlatesForOutdated 9 = .ok (.iload_n 1, 1) := by decide +kernel
theorem dX0_requirePlatesForOutdated_10 : decode cX0_requirePlatesForOutdated 10 = .ok (.invokevirtual 113, 3) := by decide +kernel
theorem dX0_requirePlatesForOutdated_13 : decode cX0_requirePlatesForOutdated 13 = .ok (.ifCond .eq 27, 3) := by decide +kernel
theorem dX0_requirePlatesForOutdated_16 : decode cX0_requirePlatesForOutdated 16 = .ok (.aload_n 0, 1) := by decide +kernel
theorem dX0_requirePlatesForOutdated_17 : decode cX0_requirePlatesForOutdated 17 = .ok (.aload_n 0, 1) := by decide +kernel
theorem dX0_requirePlatesForOutdated_18 : decode cX0_requirePlatesForOutdated 18 = .ok (.getfield 22, 3) := by decide +kernel
theorem dX0_requirePlatesForOutdated_21 : decode cX0_requirePlatesForOutdated 21 = .ok (.iload_n 1, 1) := by decide +kernel
theorem dX0_requirePlatesForOutdated_22 : decode cX0_requirePlatesForOutdated 22 = .ok (.iaload, 1) := by decide +kernel
theorem dX0_requirePlatesForOutdated_23 : decode cX0_requirePlatesForOutdated 23 = .ok (.invokevirtual 102, 3) := by decide +kernel
theorem dX0_requirePlatesForOutdated_26 : decode cX0_requirePlatesForOutdated 26 = .ok (.iconst (-1), 1) := by decide +kernel
theorem dX0_requirePlatesForOutdated_27 : decode cX0_requirePlatesForOutdated 27 = .ok (.if_icmp .ne 13, 3) := by decide +kernel
theorem dX0_requirePlatesForOutdated_30 : decode cX0_requirePlatesForOutdated 30 = .ok (.new 105, 3) := by decide +kernel
theorem dX0_requirePlatesForOutdated_33 : decode cX0_requirePlatesForOutdated 33 = .ok (.dup, 1) := by decide +kernel
theorem dX0_requirePlatesForOutdated_34 : decode cX0_requirePlatesForOutdated 34 = .ok (.ldc 107, 2) := by decide +kernel
theorem dX0_requirePlatesForOutdated_36 : decode cX0_requirePlatesForOutdated 36 = .ok (.invokespecial 109, 3) := by decide +kernel
theorem dX0_requirePlatesForOutdated_39 : decode cX0_requirePlatesForOutdated 39 = .ok (.athrow, 1) := by decide +kernel
theorem dX0_requirePlatesForOutdated_40 : decode cX0_requirePlatesForOutdated 40 = .ok (.iinc 1 1, 3) := by decide +kernel
theorem dX0_requirePlatesForOutdated_43 : decode cX0_requirePlatesForOutdated 43 = .ok (.goto (-41), 3) := by decide +kernel
theorem dX0_requirePlatesForOutdated_46 : decode cX0_requirePlatesForOutdated 46 = .ok (.return_, 1) := by decide +kernel
set_option maxRecDepth 20000 in
theorem ggX0_readText_X0_manyOf : GoodIn wsX0_readText wsX0_manyOf := goodIn_r _ [7] (by decide +kernel) (by decide +kernel)
set_option maxRecDepth 20000 in
theorem gX0_readText_X0_manyOf : GoodIn wsX0_readText (va_wsS RX0 175 yX0_manyOf wsX0_manyOf) := goodIn_app (goodIn_of _ (by decide +kernel)) ggX0_readText_X0_manyOf
set_option maxRecDepth 20000 in
theorem ggX0_readText_X0_readGlyph : GoodIn wsX0_readText wsX0_readGlyph := goodIn_r _ [11, 12, 13, 14, 15, 6, 16, 17, 18, 19, 20, 21, 22, 23, 24, 25, 26, 30, 31, 32, 33, 34, 35, 36, 37, 38, 39] (by decide +kernel) (by decide +kernel)
set_option maxRecDepth 20000 in
theorem gX0_readText_X0_readGlyph : GoodIn wsX0_readText (wsV RX0 181 RX0 yX0_readGlyph wsX0_readGlyph) := goodIn_app (goodIn_of _ (by decide +kernel)) ggX0_readText_X0_readGlyph
set_option maxRecDepth 20000 in
theorem ggX0_readText_X0_pack : GoodIn wsX0_readText wsX0_pack := goodIn_r _ [29] (by decide +kernel) (by decide +kernel)
set_option maxRecDepth 20000 in
theorem gX0_readText_X0_pack : GoodIn wsX0_readText (va_wsS RX0 94 yX0_pack wsX0_pack) := goodIn_app (goodIn_of _ (by decide +kernel)) ggX0_readText_X0_pack
theorem dX0_readText_0 : decode cX0_readText 0 = .ok (.aload_n 0, 1) := by decide +kernel
theorem dX0_readText_1 : decode cX0_readText 1 = .ok (.getfield 22, 3) := by decide +kernel
theorem dX0_readText_4 : decode cX0_readText 4 = .ok (.iload_n 1, 1) := by decide +kernel
theorem dX0_readText_5 : decode cX0_readText 5 = .ok (.iaload, 1) := by decide +kernel
theorem dX0_readText_6 : decode cX0_readText 6 = .ok (.invokestatic 175, 3) := by decide +kernel
theorem dX0_readText_9 : decode cX0_readText 9 = .ok (.istore_n 2, 1) := by decide +kernel
theorem dX0_readText_10 : decode cX0_readText 10 = .ok (.iconst 0, 1) := by decide +kernel
theorem dX0_readText_11 : decode cX0_readText 11 = .ok (.istore_n 3, 1) := by decide +kernel
theorem dX0_readText_12 : decode cX0_readText 12 = .ok (.iconst 0, 1) := by decide +kernel
theorem dX0_readText_13 : decode cX0_readText 13 = .ok (.istore 4, 2) := by decide +kernel
theorem dX0_readText_15 : decode cX0_readText 15 = .ok (.iload 4, 2) := by decide +kernel
theorem dX0_readText_17 : decode cX0_readText 17 = .ok (.iload_n 2, 1) := by decide +kernel
theorem dX0_readText_18 : decode cX0_readText 18 = .ok (.if_icmp .ge 42, 3) := by decide +kernel
theorem dX0_readText_21 : decode cX0_readText 21 = .ok (.aload_n 0, 1) := by decide +kernel
theorem dX0_readText_22 : decode cX0_readText 22 = .ok (.aload_n 0, 1) := by decide +kernel
theorem dX0_readText_23 : decode cX0_readText 23 = .ok (.getfield 28, 3) := by decide +kernel
theorem dX0_readText_26 : decode cX0_readText 26 = .ok (.iload_n 1, 1) := by decide +kernel
theorem dX0_readText_27 : decode cX0_readText 27 = .ok (.iconst 5, 1) := by decide +kernel
theorem dX0_readText_28 : decode cX0_readText 28 = .ok (.imul, 1) := by decide +kernel
theorem dX0_readText_29 : decode cX0_readText 29 = .ok (.iload 4, 2) := by decide +kernel
theorem dX0_readText_31 : decode cX0_readText 31 = .ok (.iadd, 1) := by decide +kernel
theorem dX0_readText_32 : decode cX0_readText 32 = .ok (.iaload, 1) := by decide +kernel
theorem dX0_readText_33 : decode cX0_readText 33 = .ok (.aload_n 0, 1) := by decide +kernel
theorem dX0_readText_34 : decode cX0_readText 34 = .ok (.getfield 25, 3) := by decide +kernel
theorem dX0_readText_37 : decode cX0_readText 37 = .ok (.iload_n 1, 1) := by decide +kernel
theorem dX0_readText_38 : decode cX0_readText 38 = .ok (.iaload, 1) := by decide +kernel
theorem dX0_readText_39 : decode cX0_readText 39 = .ok (.invokevirtual 181, 3) := by decide +kernel
theorem dX0_readText_42 : decode cX0_readText 42 = .ok (.istore 5, 2) := by decide +kernel
theorem dX0_readText_44 : decode cX0_readText 44 = .ok (.iload_n 3, 1) := by decide +kernel
theorem dX0_readText_45 : decode cX0_readText 45 = .ok (.iload 5, 2) := by decide +kernel
theorem dX0_readText_47 : decode cX0_readText 47 = .ok (.iconst 3, 1) := by decide +kernel
theorem dX0_readText_48 : decode cX0_readText 48 = .ok (.iload 4, 2) := by decide +kernel
theorem dX0_readText_50 : decode cX0_readText 50 = .ok (.imul, 1) := by decide +kernel
theorem dX0_readText_51 : decode cX0_readText 51 = .ok (.ishl, 1) := by decide +kernel
theorem dX0_readText_52 : decode cX0_readText 52 = .ok (.ior, 1) := by decide +kernel
theorem dX0_readText_53 : decode cX0_readText 53 = .ok (.istore_n 3, 1) := by decide +kernel
theorem dX0_readText_54 : decode cX0_readText 54 = .ok (.iinc 4 1, 3) := by decide +kernel
theorem dX0_readText_57 : decode cX0_readText 57 = .ok (.goto (-42), 3) := by decide +kernel
theorem dX0_readText_60 : decode cX0_readText 60 = .ok (.iload_n 3, 1) := by decide +kernel
theorem dX0_readText_61 : decode cX0_readText 61 = .ok (.iload_n 2, 1) := by decide +kernel
theorem dX0_readText_62 : decode cX0_readText 62 = .ok (.invokestatic 94, 3) := by decide +kernel
theorem dX0_readText_65 : decode cX0_readText 65 = .ok (.ireturn, 1) := by decide +kernel
set_option maxRecDepth 20000 in
theorem ggX0_readGlyph_X0_nearestGlyph : GoodIn wsX0_readGlyph wsX0_nearestGlyph := goodIn_r _ [6, 1, 7, 8, 5, 9, 10, 11, 12, 13, 14, 15, 16, 17, 18, 19, 20, 21, 22, 23, 24, 25, 26] (by decide +kernel) (by decide +kernel)
set_option maxRecDepth 20000 in
theorem gX0_readGlyph_X0_nearestGlyph : GoodIn wsX0_readGlyph (wsV RX0 184 RX0 yX0_nearestGlyph wsX0_nearestGlyph) := goodIn_app (goodIn_of _ (by decide +kernel)) ggX0_readGlyph_X0_nearestGlyph
set_option maxRecDepth 20000 in
theorem ggX0_readGlyph_X0_differing : GoodIn wsX0_readGlyph wsX0_differing := goodIn_r _ [9, 10, 11, 12, 13, 14, 15, 16] (by decide +kernel) (by decide +kernel)
set_option maxRecDepth 20000 in
theorem gX0_readGlyph_X0_differing : GoodIn wsX0_readGlyph (va_wsS RX0 63 yX0_differing wsX0_differing) := goodIn_app (goodIn_of _ (by decide +kernel)) ggX0_readGlyph_X0_differing
theorem dX0_readGlyph_0 : decode cX0_readGlyph 0 = .ok (.aload_n 0, 1) := by decide +kernel
theorem dX0_readGlyph_1 : decode cX0_readGlyph 1 = .ok (.iload_n 1, 1) := by decide +kernel
theorem dX0_readGlyph_2 : decode cX0_readGlyph 2 = .ok (.iconst (-1), 1) := by decide +kernel
theorem dX0_readGlyph_3 : decode cX0_readGlyph 3 = .ok (.invokevirtual 184, 3) := by decide +kernel
theorem dX0_readGlyph_6 : decode cX0_readGlyph 6 = .ok (.istore_n 3, 1) := by decide +kernel
theorem dX0_readGlyph_7 : decode cX0_readGlyph 7 = .ok (.aload_n 0, 1) := by decide +kernel
theorem dX0_readGlyph_8 : decode cX0_readGlyph 8 = .ok (.iload_n 1, 1) := by decide +kernel
theorem dX0_readGlyph_9 : decode cX0_readGlyph 9 = .ok (.iload_n 3, 1) := by decide +kernel
theorem dX0_readGlyph_10 : decode cX0_readGlyph 10 = .ok (.invokevirtual 184, 3) := by decide +kernel
theorem dX0_readGlyph_13 : decode cX0_readGlyph 13 = .ok (.istore 4, 2) := by decide +kernel
theorem dX0_readGlyph_15 : decode cX0_readGlyph 15 = .ok (.iload_n 1, 1) := by decide +kernel
theorem dX0_readGlyph_16 : decode cX0_readGlyph 16 = .ok (.aload_n 0, 1) := by decide +kernel
theorem dX0_readGlyph_17 : decode cX0_readGlyph 17 = .ok (.getfield 9, 3) := by decide +kernel
theorem dX0_readGlyph_20 : decode cX0_readGlyph 20 = .ok (.iload 4, 2) := by decide +kernel
theorem dX0_readGlyph_22 : decode cX0_readGlyph 22 = .ok (.iaload, 1) := by decide +kernel
theorem dX0_readGlyph_23 : decode cX0_readGlyph 23 = .ok (.invokestatic 63, 3) := by decide +kernel
theorem dX0_readGlyph_26 : decode cX0_readGlyph 26 = .ok (.iload_n 1, 1) := by decide +kernel
theorem dX0_readGlyph_27 : decode cX0_readGlyph 27 = .ok (.aload_n 0, 1) := by decide +kernel
theorem dX0_readGlyph_28 : decode cX0_readGlyph 28 = .ok (.getfield 9, 3) := by decide +kernel
theorem dX0_readGlyph_31 : decode cX0_readGlyph 31 = .ok (.iload_n 3, 1) := by decide +kernel
theorem dX0_readGlyph_32 : decode cX0_readGlyph 32 = .ok (.iaload, 1) := by decide +kernel
theorem dX0_readGlyph_33 : decode cX0_readGlyph 33 = .ok (.invokestatic 63, 3) := by decide +kernel
theorem dX0_readGlyph_36 : decode cX0_readGlyph 36 = .ok (.isub, 1) := by decide +kernel
theorem dX0_readGlyph_37 : decode cX0_readGlyph 37 = .ok (.istore 5, 2) := by decide +kernel
theorem dX0_readGlyph_39 : decode cX0_readGlyph 39 = .ok (.iload 5, 2) := by decide +kernel
theorem dX0_readGlyph_41 : decode cX0_readGlyph 41 = .ok (.iload_n 2, 1) := by decide +kernel
theorem dX0_readGlyph_42 : decode cX0_readGlyph 42 = .ok (.if_icmp .lt 7, 3) := by decide +kernel
theorem dX0_readGlyph_45 : decode cX0_readGlyph 45 = .ok (.iload_n 3, 1) := by decide +kernel
theorem dX0_readGlyph_46 : decode cX0_readGlyph 46 = .ok (.goto 5, 3) := by decide +kernel
theorem dX0_readGlyph_49 : decode cX0_readGlyph 49 = .ok (.iload 4, 2) := by decide +kernel
theorem dX0_readGlyph_51 : decode cX0_readGlyph 51 = .ok (.ireturn, 1) := by decide +kernel
set_option maxRecDepth 20000 in
theorem ggX0_nearestGlyph_X0_differing : GoodIn wsX0_nearestGlyph wsX0_differing := goodIn_r _ [5, 6, 7, 8, 9, 10, 11, 12] (by decide +kernel) (by decide +kernel)
set_option maxRecDepth 20000 in
theorem gX0_nearestGlyph_X0_differing : GoodIn wsX0_nearestGlyph (va_wsS RX0 63 yX0_differing wsX0_differing) := goodIn_app (goodIn_of _ (by decide +kernel)) ggX0_nearestGlyph_X0_differing
theorem dX0_nearestGlyph_0 : decode cX0_nearestGlyph 0 = .ok (.iload_n 2, 1) := by decide +kernel
theorem dX0_nearestGlyph_1 : decode cX0_nearestGlyph 1 = .ok (.ifCond .ne 7, 3) := by decide +kernel
theorem dX0_nearestGlyph_4 : decode cX0_nearestGlyph 4 = .ok (.iconst 1, 1) := by decide +kernel
theorem dX0_nearestGlyph_5 : decode cX0_nearestGlyph 5 = .ok (.goto 4, 3) := by decide +kernel
theorem dX0_nearestGlyph_8 : decode cX0_nearestGlyph 8 = .ok (.iconst 0, 1) := by decide +kernel
theorem dX0_nearestGlyph_9 : decode cX0_nearestGlyph 9 = .ok (.istore_n 3, 1) := by decide +kernel
theorem dX0_nearestGlyph_10 : decode cX0_nearestGlyph 10 = .ok (.iload_n 3, 1) := by decide +kernel
theorem dX0_nearestGlyph_11 : decode cX0_nearestGlyph 11 = .ok (.iconst 1, 1) := by decide +kernel
theorem dX0_nearestGlyph_12 : decode cX0_nearestGlyph 12 = .ok (.iadd, 1) := by decide +kernel
theorem dX0_nearestGlyph_13 : decode cX0_nearestGlyph 13 = .ok (.istore 4, 2) := by decide +kernel
theorem dX0_nearestGlyph_15 : decode cX0_nearestGlyph 15 = .ok (.iload 4, 2) := by decide +kernel
theorem dX0_nearestGlyph_17 : decode cX0_nearestGlyph 17 = .ok (.bipush 8, 2) := by decide +kernel
theorem dX0_nearestGlyph_19 : decode cX0_nearestGlyph 19 = .ok (.if_icmp .ge 42, 3) := by decide +kernel
theorem dX0_nearestGlyph_22 : decode cX0_nearestGlyph 22 = .ok (.iload 4, 2) := by decide +kernel
theorem dX0_nearestGlyph_24 : decode cX0_nearestGlyph 24 = .ok (.iload_n 2, 1) := by decide +kernel
theorem dX0_nearestGlyph_25 : decode cX0_nearestGlyph 25 = .ok (.if_icmp .eq 30, 3) := by decide +kernel
theorem dX0_nearestGlyph_28 : decode cX0_nearestGlyph 28 = .ok (.iload_n 1, 1) := by decide +kernel
theorem dX0_nearestGlyph_29 : decode cX0_nearestGlyph 29 = .ok (.aload_n 0, 1) := by decide +kernel
theorem dX0_nearestGlyph_30 : decode cX0_nearestGlyph 30 = .ok (.getfield 9, 3) := by decide +kernel
theorem dX0_nearestGlyph_33 : decode cX0_nearestGlyph 33 = .ok (.iload 4, 2) := by decide +kernel
theorem dX0_nearestGlyph_35 : decode cX0_nearestGlyph 35 = .ok (.iaload, 1) := by decide +kernel
theorem dX0_nearestGlyph_36 : decode cX0_nearestGlyph 36 = .ok (.invokestatic 63, 3) := by decide +kernel
theorem dX0_nearestGlyph_39 : decode cX0_nearestGlyph 39 = .ok (.iload_n 1, 1) := by decide +kernel
theorem dX0_nearestGlyph_40 : decode cX0_nearestGlyph 40 = .ok (.aload_n 0, 1) := by decide +kernel
theorem dX0_nearestGlyph_41 : decode cX0_nearestGlyph 41 = .ok (.getfield 9, 3) := by decide +kernel
theorem dX0_nearestGlyph_44 : decode cX0_nearestGlyph 44 = .ok (.iload_n 3, 1) := by decide +kernel
theorem dX0_nearestGlyph_45 : decode cX0_nearestGlyph 45 = .ok (.iaload, 1) := by decide +kernel
theorem dX0_nearestGlyph_46 : decode cX0_nearestGlyph 46 = .ok (.invokestatic 63, 3) := by decide +kernel
theorem dX0_nearestGlyph_49 : decode cX0_nearestGlyph 49 = .ok (.if_icmp .ge 6, 3) := by decide +kernel
theorem dX0_nearestGlyph_52 : decode cX0_nearestGlyph 52 = .ok (.iload 4, 2) := by decide +kernel
theorem dX0_nearestGlyph_54 : decode cX0_nearestGlyph 54 = .ok (.istore_n 3, 1) := by decide +kernel
theorem dX0_nearestGlyph_55 : decode cX0_nearestGlyph 55 = .ok (.iinc 4 1, 3) := by decide +kernel
theorem dX0_nearestGlyph_58 : decode cX0_nearestGlyph 58 = .ok (.goto (-43), 3) := by decide +kernel
theorem dX0_nearestGlyph_61 : decode cX0_nearestGlyph 61 = .ok (.iload_n 3, 1) := by decide +kernel
theorem dX0_nearestGlyph_62 : decode cX0_nearestGlyph 62 = .ok (.ireturn, 1) := by decide +kernel
theorem dX0_forgetWalks_0 : decode cX0_forgetWalks 0 = .ok (.aload_n 0, 1) := by decide +kernel
theorem dX0_forgetWalks_1 : decode cX0_forgetWalks 1 = .ok (.iconst 0, 1) := by decide +kernel
theorem dX0_forgetWalks_2 : decode cX0_forgetWalks 2 = .ok (.putfield 35, 3) := by decide +kernel
theorem dX0_forgetWalks_5 : decode cX0_forgetWalks 5 = .ok (.return_, 1) := by decide +kernel
set_option maxRecDepth 20000 in
theorem ggX0_stepsToArrive_X0_nextWay : GoodIn wsX0_stepsToArrive wsX0_nextWay := goodIn_r _ [7, 2, 8, 9, 6, 10, 11, 12, 13, 14, 15, 16, 17, 18, 19, 20, 21, 22, 23, 24, 25, 26, 27, 28, 29, 30, 31, 32, 33, 34, 35, 36, 37, 38, 39, 40, 41, 42, 43, 44, 45, 46, 47, 48, 49, 50, 51, 52, 53, 54, 55, 56] (by decide +kernel) (by decide +kernel)
set_option maxRecDepth 20000 in
theorem gX0_stepsToArrive_X0_nextWay : GoodIn wsX0_stepsToArrive (wsV RX0 187 RX0 yX0_nextWay wsX0_nextWay) := goodIn_app (goodIn_of _ (by decide +kernel)) ggX0_stepsToArrive_X0_nextWay
theorem dX0_stepsToArrive_0 : decode cX0_stepsToArrive 0 = .ok (.iload_n 1, 1) := by decide +kernel
theorem dX0_stepsToArrive_1 : decode cX0_stepsToArrive 1 = .ok (.istore_n 3, 1) := by decide +kernel
theorem dX0_stepsToArrive_2 : decode cX0_stepsToArrive 2 = .ok (.iconst 0, 1) := by decide +kernel
theorem dX0_stepsToArrive_3 : decode cX0_stepsToArrive 3 = .ok (.istore 4, 2) := by decide +kernel
theorem dX0_stepsToArrive_5 : decode cX0_stepsToArrive 5 = .ok (.iconst 0, 1) := by decide +kernel
theorem dX0_stepsToArrive_6 : decode cX0_stepsToArrive 6 = .ok (.istore 5, 2) := by decide +kernel
theorem dX0_stepsToArrive_8 : decode cX0_stepsToArrive 8 = .ok (.iload 5, 2) := by decide +kernel
theorem dX0_stepsToArrive_10 : decode cX0_stepsToArrive 10 = .ok (.bipush 30, 2) := by decide +kernel
theorem dX0_stepsToArrive_12 : decode cX0_stepsToArrive 12 = .ok (.if_icmp .gt 57, 3) := by decide +kernel
theorem dX0_stepsToArrive_15 : decode cX0_stepsToArrive 15 = .ok (.aload_n 0, 1) := by decide +kernel
theorem dX0_stepsToArrive_16 : decode cX0_stepsToArrive 16 = .ok (.getfield 19, 3) := by decide +kernel
theorem dX0_stepsToArrive_19 : decode cX0_stepsToArrive 19 = .ok (.iload_n 3, 1) := by decide +kernel
theorem dX0_stepsToArrive_20 : decode cX0_stepsToArrive 20 = .ok (.iaload, 1) := by decide +kernel
theorem dX0_stepsToArrive_21 : decode cX0_stepsToArrive 21 = .ok (.iload_n 2, 1) := by decide +kernel
theorem dX0_stepsToArrive_22 : decode cX0_stepsToArrive 22 = .ok (.if_icmp .ne 6, 3) := by decide +kernel
theorem dX0_stepsToArrive_25 : decode cX0_stepsToArrive 25 = .ok (.iload 5, 2) := by decide +kernel
theorem dX0_stepsToArrive_27 : decode cX0_stepsToArrive 27 = .ok (.ireturn, 1) := by decide +kernel
theorem dX0_stepsToArrive_28 : decode cX0_stepsToArrive 28 = .ok (.aload_n 0, 1) := by decide +kernel
theorem dX0_stepsToArrive_29 : decode cX0_stepsToArrive 29 = .ok (.iload_n 3, 1) := by decide +kernel
theorem dX0_stepsToArrive_30 : decode cX0_stepsToArrive 30 = .ok (.iload_n 2, 1) := by decide +kernel
theorem dX0_stepsToArrive_31 : decode cX0_stepsToArrive 31 = .ok (.iload 4, 2) := by decide +kernel
theorem dX0_stepsToArrive_33 : decode cX0_stepsToArrive 33 = .ok (.invokevirtual 187, 3) := by decide +kernel
theorem dX0_stepsToArrive_36 : decode cX0_stepsToArrive 36 = .ok (.istore 6, 2) := by decide +kernel
theorem dX0_stepsToArrive_38 : decode cX0_stepsToArrive 38 = .ok (.iload 6, 2) := by decide +kernel
theorem dX0_stepsToArrive_40 : decode cX0_stepsToArrive 40 = .ok (.iconst (-1), 1) := by decide +kernel
theorem dX0_stepsToArrive_41 : decode cX0_stepsToArrive 41 = .ok (.if_icmp .ne 5, 3) := by decide +kernel
theorem dX0_stepsToArrive_44 : decode cX0_stepsToArrive 44 = .ok (.iconst (-1), 1) := by decide +kernel
theorem dX0_stepsToArrive_45 : decode cX0_stepsToArrive 45 = .ok (.ireturn, 1) := by decide +kernel
theorem dX0_stepsToArrive_46 : decode cX0_stepsToArrive 46 = .ok (.iload 4, 2) := by decide +kernel
theorem dX0_stepsToArrive_48 : decode cX0_stepsToArrive 48 = .ok (.iconst 1, 1) := by decide +kernel
theorem dX0_stepsToArrive_49 : decode cX0_stepsToArrive 49 = .ok (.iload 6, 2) := by decide +kernel
theorem dX0_stepsToArrive_51 : decode cX0_stepsToArrive 51 = .ok (.ishl, 1) := by decide +kernel
theorem dX0_stepsToArrive_52 : decode cX0_stepsToArrive 52 = .ok (.ior, 1) := by decide +kernel
theorem dX0_stepsToArrive_53 : decode cX0_stepsToArrive 53 = .ok (.istore 4, 2) := by decide +kernel
theorem dX0_stepsToArrive_55 : decode cX0_stepsToArrive 55 = .ok (.aload_n 0, 1) := by decide +kernel
theorem dX0_stepsToArrive_56 : decode cX0_stepsToArrive 56 = .ok (.getfield 16, 3) := by decide +kernel
theorem dX0_stepsToArrive_59 : decode cX0_stepsToArrive 59 = .ok (.iload 6, 2) := by decide +kernel
theorem dX0_stepsToArrive_61 : decode cX0_stepsToArrive 61 = .ok (.iaload, 1) := by decide +kernel
theorem dX0_stepsToArrive_62 : decode cX0_stepsToArrive 62 = .ok (.istore_n 3, 1) := by decide +kernel
theorem dX0_stepsToArrive_63 : decode cX0_stepsToArrive 63 = .ok (.iinc 5 1, 3) := by decide +kernel
theorem dX0_stepsToArrive_66 : decode cX0_stepsToArrive 66 = .ok (.goto (-58), 3) := by decide +kernel
theorem dX0_stepsToArrive_69 : decode cX0_stepsToArrive 69 = .ok (.iconst (-1), 1) := by decide +kernel
theorem dX0_stepsToArrive_70 : decode cX0_stepsToArrive 70 = .ok (.ireturn, 1) := by decide +kernel
set_option maxRecDepth 20000 in
theorem ggX0_placeReached_X0_nextWay : GoodIn wsX0_placeReached wsX0_nextWay := goodIn_r _ [7, 2, 8, 9, 6, 10, 11, 12, 13, 14, 15, 16, 17, 18, 19, 20, 21, 22, 23, 24, 25, 26, 27, 28, 29, 30, 31, 32, 33, 34, 35, 36, 37, 38, 39, 40, 41, 42, 43, 44, 45, 46, 47, 48, 49, 50, 51, 52, 53, 54, 55, 56] (by decide +kernel) (by decide +kernel)
set_option maxRecDepth 20000 in
theorem gX0_placeReached_X0_nextWay : GoodIn wsX0_placeReached (wsV RX0 187 RX0 yX0_nextWay wsX0_nextWay) := goodIn_app (goodIn_of _ (by decide +kernel)) ggX0_placeReached_X0_nextWay
theorem dX0_placeReached_0 : decode cX0_placeReached 0 = .ok (.iload_n 1, 1) := by decide +kernel
theorem dX0_placeReached_1 : decode cX0_placeReached 1 = .ok (.istore 4, 2) := by decide +kernel
theorem dX0_placeReached_3 : decode cX0_placeReached 3 = .ok (.iconst 0, 1) := by decide +kernel
theorem dX0_placeReached_4 : decode cX0_placeReached 4 = .ok (.istore 5, 2) := by decide +kernel
theorem dX0_placeReached_6 : decode cX0_placeReached 6 = .ok (.iconst 0, 1) := by decide +kernel
theorem dX0_placeReached_7 : decode cX0_placeReached 7 = .ok (.istore 6, 2) := by decide +kernel
theorem dX0_placeReached_9 : decode cX0_placeReached 9 = .ok (.iload 6, 2) := by decide +kernel
theorem dX0_placeReached_11 : decode cX0_placeReached 11 = .ok (.iload_n 3, 1) := by decide +kernel
theorem dX0_placeReached_12 : decode cX0_placeReached 12 = .ok (.if_icmp .ge 58, 3) := by decide +kernel
theorem dX0_placeReached_15 : decode cX0_placeReached 15 = .ok (.aload_n 0, 1) := by decide +kernel
theorem dX0_placeReached_16 : decode cX0_placeReached 16 = .ok (.getfield 19, 3) := by decide +kernel
theorem dX0_placeReached_19 : decode cX0_placeReached 19 = .ok (.iload 4, 2) := by decide +kernel
theorem dX0_placeReached_21 : decode cX0_placeReached 21 = .ok (.iaload, 1) := by decide +kernel
theorem dX0_placeReached_22 : decode cX0_placeReached 22 = .ok (.iload_n 2, 1) := by decide +kernel
theorem dX0_placeReached_23 : decode cX0_placeReached 23 = .ok (.if_icmp .eq 47, 3) := by decide +kernel
theorem dX0_placeReached_26 : decode cX0_placeReached 26 = .ok (.aload_n 0, 1) := by decide +kernel
theorem dX0_placeReached_27 : decode cX0_placeReached 27 = .ok (.iload 4, 2) := by decide +kernel
theorem dX0_placeReached_29 : decode cX0_placeReached 29 = .ok (.iload_n 2, 1) := by decide +kernel
theorem dX0_placeReached_30 : decode cX0_placeReached 30 = .ok (.iload 5, 2) := by decide +kernel
theorem dX0_placeReached_32 : decode cX0_placeReached 32 = .ok (.invokevirtual 187, 3) := by decide +kernel
theorem dX0_placeReached_35 : decode cX0_placeReached 35 = .ok (.istore 7, 2) := by decide +kernel
theorem dX0_placeReached_37 : decode cX0_placeReached 37 = .ok (.iload 7, 2) := by decide +kernel
theorem dX0_placeReached_39 : decode cX0_placeReached 39 = .ok (.iconst (-1), 1) := by decide +kernel
theorem dX0_placeReached_40 : decode cX0_placeReached 40 = .ok (.if_icmp .ne 6, 3) := by decide +kernel
theorem dX0_placeReached_43 : decode cX0_placeReached 43 = .ok (.iload 4, 2) := by decide +kernel
theorem dX0_placeReached_45 : decode cX0_placeReached 45 = .ok (.ireturn, 1) := by decide +kernel
theorem dX0_placeReached_46 : decode cX0_placeReached 46 = .ok (.iload 5, 2) := by decide +kernel
theorem dX0_placeReached_48 : decode cX0_placeReached 48 = .ok (.iconst 1, 1) := by decide +kernel
theorem dX0_placeReached_49 : decode cX0_placeReached 49 = .ok (.iload 7, 2) := by decide +kernel
theorem dX0_placeReached_51 : decode cX0_placeReached 51 = .ok (.ishl, 1) := by decide +kernel
theorem dX0_placeReached_52 : decode cX0_placeReached 52 = .ok (.ior, 1) := by decide +kernel
theorem dX0_placeReached_53 : decode cX0_placeReached 53 = .ok (.istore 5, 2) := by decide +kernel
theorem dX0_placeReached_55 : decode cX0_placeReached 55 = .ok (.aload_n 0, 1) := by decide +kernel
theorem dX0_placeReached_56 : decode cX0_placeReached 56 = .ok (.getfield 16, 3) := by decide +kernel
theorem dX0_placeReached_59 : decode cX0_placeReached 59 = .ok (.iload 7, 2) := by decide +kernel
theorem dX0_placeReached_61 : decode cX0_placeReached 61 = .ok (.iaload, 1) := by decide +kernel
theorem dX0_placeReached_62 : decode cX0_placeReached 62 = .ok (.istore 4, 2) := by decide +kernel
theorem dX0_placeReached_64 : decode cX0_placeReached 64 = .ok (.iinc 6 1, 3) := by decide +kernel
theorem dX0_placeReached_67 : decode cX0_placeReached 67 = .ok (.goto (-58), 3) := by decide +kernel
theorem dX0_placeReached_70 : decode cX0_placeReached 70 = .ok (.iload 4, 2) := by decide +kernel
theorem dX0_placeReached_72 : decode cX0_placeReached 72 = .ok (.ireturn, 1) := by decide +kernel
set_option maxRecDepth 20000 in
theorem ggX0_nextWay_X0_wayOf : GoodIn wsX0_nextWay wsX0_wayOf := goodIn_r _ [5] (by decide +kernel) (by decide +kernel)
set_option maxRecDepth 20000 in
theorem gX0_nextWay_X0_wayOf : GoodIn wsX0_nextWay (va_wsS RX0 88 yX0_wayOf wsX0_wayOf) := goodIn_app (goodIn_of _ (by decide +kernel)) ggX0_nextWay_X0_wayOf
set_option maxRecDepth 20000 in
theorem ggX0_nextWay_X0_isReadAs : GoodIn wsX0_nextWay wsX0_isReadAs := goodIn_r _ [9, 10, 11, 12, 4, 13, 14, 15, 16, 17, 18, 19, 20, 21, 22, 23, 24, 25, 26, 27, 28, 29, 30, 31, 32, 33, 34, 35, 36, 37, 38, 39, 40, 41, 42, 43, 44, 45, 46, 47, 48, 49, 50, 51] (by decide +kernel) (by decide +kernel)
set_option maxRecDepth 20000 in
theorem gX0_nextWay_X0_isReadAs : GoodIn wsX0_nextWay (wsV RX0 190 RX0 yX0_isReadAs wsX0_isReadAs) := goodIn_app (goodIn_of _ (by decide +kernel)) ggX0_nextWay_X0_isReadAs
theorem dX0_nextWay_0 : decode cX0_nextWay 0 = .ok (.iconst (-1), 1) := by decide +kernel
theorem dX0_nextWay_1 : decode cX0_nextWay 1 = .ok (.istore 4, 2) := by decide +kernel
theorem dX0_nextWay_3 : decode cX0_nextWay 3 = .ok (.iconst 0, 1) := by decide +kernel
theorem dX0_nextWay_4 : decode cX0_nextWay 4 = .ok (.istore 5, 2) := by decide +kernel
theorem dX0_nextWay_6 : decode cX0_nextWay 6 = .ok (.iload 5, 2) := by decide +kernel
theorem dX0_nextWay_8 : decode cX0_nextWay 8 = .ok (.iconst 4, 1) := by decide +kernel
theorem dX0_nextWay_9 : decode cX0_nextWay 9 = .ok (.if_icmp .ge 60, 3) := by decide +kernel
theorem dX0_nextWay_12 : decode cX0_nextWay 12 = .ok (.iload_n 1, 1) := by decide +kernel
theorem dX0_nextWay_13 : decode cX0_nextWay 13 = .ok (.iload 5, 2) := by decide +kernel
theorem dX0_nextWay_15 : decode cX0_nextWay 15 = .ok (.invokestatic 88, 3) := by decide +kernel
theorem dX0_nextWay_18 : decode cX0_nextWay 18 = .ok (.istore 6, 2) := by decide +kernel
theorem dX0_nextWay_20 : decode cX0_nextWay 20 = .ok (.aload_n 0, 1) := by decide +kernel
theorem dX0_nextWay_21 : decode cX0_nextWay 21 = .ok (.getfield 16, 3) := by decide +kernel
theorem dX0_nextWay_24 : decode cX0_nextWay 24 = .ok (.iload 6, 2) := by decide +kernel
theorem dX0_nextWay_26 : decode cX0_nextWay 26 = .ok (.iaload, 1) := by decide +kernel
theorem dX0_nextWay_27 : decode cX0_nextWay 27 = .ok (.iconst (-1), 1) := by decide +kernel
theorem dX0_nextWay_28 : decode cX0_nextWay 28 = .ok (.if_icmp .eq 35, 3) := by decide +kernel
theorem dX0_nextWay_31 : decode cX0_nextWay 31 = .ok (.aload_n 0, 1) := by decide +kernel
theorem dX0_nextWay_32 : decode cX0_nextWay 32 = .ok (.iload 6, 2) := by decide +kernel
theorem dX0_nextWay_34 : decode cX0_nextWay 34 = .ok (.iload_n 2, 1) := by decide +kernel
theorem dX0_nextWay_35 : decode cX0_nextWay 35 = .ok (.invokevirtual 190, 3) := by decide +kernel
theorem dX0_nextWay_38 : decode cX0_nextWay 38 = .ok (.ifCond .eq 6, 3) := by decide +kernel
theorem dX0_nextWay_41 : decode cX0_nextWay 41 = .ok (.iload 6, 2) := by decide +kernel
theorem dX0_nextWay_43 : decode cX0_nextWay 43 = .ok (.ireturn, 1) := by decide +kernel
theorem dX0_nextWay_44 : decode cX0_nextWay 44 = .ok (.iload 4, 2) := by decide +kernel
theorem dX0_nextWay_46 : decode cX0_nextWay 46 = .ok (.iconst (-1), 1) := by decide +kernel
theorem dX0_nextWay_47 : decode cX0_nextWay 47 = .ok (.if_icmp .ne 16, 3) := by decide +kernel
theorem dX0_nextWay_50 : decode cX0_nextWay 50 = .ok (.iload_n 3, 1) := by decide +kernel
theorem dX0_nextWay_51 : decode cX0_nextWay 51 = .ok (.iconst 1, 1) := by decide +kernel
theorem dX0_nextWay_52 : decode cX0_nextWay 52 = .ok (.iload 6, 2) := by decide +kernel
theorem dX0_nextWay_54 : decode cX0_nextWay 54 = .ok (.ishl, 1) := by decide +kernel
theorem dX0_nextWay_55 : decode cX0_nextWay 55 = .ok (.iand, 1) := by decide +kernel
theorem dX0_nextWay_56 : decode cX0_nextWay 56 = .ok (.ifCond .ne 7, 3) := by decide +kernel
theorem dX0_nextWay_59 : decode cX0_nextWay 59 = .ok (.iload 6, 2) := by decide +kernel
theorem dX0_nextWay_61 : decode cX0_nextWay 61 = .ok (.istore 4, 2) := by decide +kernel
theorem dX0_nextWay_63 : decode cX0_nextWay 63 = .ok (.iinc 5 1, 3) := by decide +kernel
theorem dX0_nextWay_66 : decode cX0_nextWay 66 = .ok (.goto (-60), 3) := by decide +kernel
theorem dX0_nextWay_69 : decode cX0_nextWay 69 = .ok (.iload 4, 2) := by decide +kernel
theorem dX0_nextWay_71 : decode cX0_nextWay 71 = .ok (.ireturn, 1) := by decide +kernel
set_option maxRecDepth 20000 in
theorem ggX0_isReadAs_X0_manyOf : GoodIn wsX0_isReadAs wsX0_manyOf := goodIn_r _ [5] (by decide +kernel) (by decide +kernel)
set_option maxRecDepth 20000 in
theorem gX0_isReadAs_X0_manyOf : GoodIn wsX0_isReadAs (va_wsS RX0 175 yX0_manyOf wsX0_manyOf) := goodIn_app (goodIn_of _ (by decide +kernel)) ggX0_isReadAs_X0_manyOf
set_option maxRecDepth 20000 in
theorem ggX0_isReadAs_X0_readText : GoodIn wsX0_isReadAs wsX0_readText := goodIn_r _ [9, 1, 10, 11, 2, 3, 4, 5, 12, 13, 14, 15, 16, 17, 18, 19, 20, 21, 22, 23, 24, 25, 26, 27, 28, 29, 30, 31, 32, 33, 34, 35, 36, 37, 38, 39, 40, 41, 42, 43] (by decide +kernel) (by decide +kernel)
set_option maxRecDepth 20000 in
theorem gX0_isReadAs_X0_readText : GoodIn wsX0_isReadAs (wsV RX0 120 RX0 yX0_readText wsX0_readText) := goodIn_app (goodIn_of _ (by decide +kernel)) ggX0_isReadAs_X0_readText
theorem dX0_isReadAs_0 : decode cX0_isReadAs 0 = .ok (.aload_n 0, 1) := by decide +kernel
theorem dX0_isReadAs_1 : decode cX0_isReadAs 1 = .ok (.getfield 22, 3) := by decide +kernel
theorem dX0_isReadAs_4 : decode cX0_isReadAs 4 = .ok (.iload_n 1, 1) := by decide +kernel
theorem dX0_isReadAs_5 : decode cX0_isReadAs 5 = .ok (.iaload, 1) := by decide +kernel
theorem dX0_isReadAs_6 : decode cX0_isReadAs 6 = .ok (.invokestatic 175, 3) := by decide +kernel
theorem dX0_isReadAs_9 : decode cX0_isReadAs 9 = .ok (.iload_n 2, 1) := by decide +kernel
theorem dX0_isReadAs_10 : decode cX0_isReadAs 10 = .ok (.invokestatic 175, 3) := by decide +kernel
theorem dX0_isReadAs_13 : decode cX0_isReadAs 13 = .ok (.if_icmp .ne 16, 3) := by decide +kernel
theorem dX0_isReadAs_16 : decode cX0_isReadAs 16 = .ok (.aload_n 0, 1) := by decide +kernel
theorem dX0_isReadAs_17 : decode cX0_isReadAs 17 = .ok (.iload_n 1, 1) := by decide +kernel
theorem dX0_isReadAs_18 : decode cX0_isReadAs 18 = .ok (.invokevirtual 120, 3) := by decide +kernel
theorem dX0_isReadAs_21 : decode cX0_isReadAs 21 = .ok (.iload_n 2, 1) := by decide +kernel
theorem dX0_isReadAs_22 : decode cX0_isReadAs 22 = .ok (.if_icmp .ne 7, 3) := by decide +kernel
theorem dX0_isReadAs_25 : decode cX0_isReadAs 25 = .ok (.iconst 1, 1) := by decide +kernel
theorem dX0_isReadAs_26 : decode cX0_isReadAs 26 = .ok (.goto 4, 3) := by decide +kernel
theorem dX0_isReadAs_29 : decode cX0_isReadAs 29 = .ok (.iconst 0, 1) := by decide +kernel
theorem dX0_isReadAs_30 : decode cX0_isReadAs 30 = .ok (.ireturn, 1) := by decide +kernel
end
section
theorem dX1_init_0 : decode cX1_init 0 = .ok (.aload_n 0, 1) := by decide +kernel
theorem dX1_init_1 : decode cX1_init 1 = .ok (.invokespecial 1, 3) := by decide +kernel
theorem dX1_init_4 : decode cX1_init 4 = .ok (.aload_n 0, 1) := by decide +kernel
theorem dX1_init_5 : decode cX1_init 5 = .ok (.bipush 8, 2) := by decide +kernel
theorem dX1_init_7 : decode cX1_init 7 = .ok (.newarray .int, 2) := by decide +kernel
theorem dX1_init_9 : decode cX1_init 9 = .ok (.putfield 7, 3) := by decide +kernel
theorem dX1_init_12 : decode cX1_init 12 = .ok (.aload_n 0, 1) := by decide +kernel
theorem dX1_init_13 : decode cX1_init 13 = .ok (.bipush 64, 2) := by decide +kernel
theorem dX1_init_15 : decode cX1_init 15 = .ok (.newarray .int, 2) := by decide +kernel
theorem dX1_init_17 : decode cX1_init 17 = .ok (.putfield 13, 3) := by decide +kernel
theorem dX1_init_20 : decode cX1_init 20 = .ok (.aload_n 0, 1) := by decide +kernel
theorem dX1_init_21 : decode cX1_init 21 = .ok (.bipush 32, 2) := by decide +kernel
theorem dX1_init_23 : decode cX1_init 23 = .ok (.newarray .int, 2) := by decide +kernel
theorem dX1_init_25 : decode cX1_init 25 = .ok (.putfield 16, 3) := by decide +kernel
theorem dX1_init_28 : decode cX1_init 28 = .ok (.aload_n 0, 1) := by decide +kernel
theorem dX1_init_29 : decode cX1_init 29 = .ok (.bipush 8, 2) := by decide +kernel
theorem dX1_init_31 : decode cX1_init 31 = .ok (.newarray .int, 2) := by decide +kernel
theorem dX1_init_33 : decode cX1_init 33 = .ok (.putfield 19, 3) := by decide +kernel
theorem dX1_init_36 : decode cX1_init 36 = .ok (.aload_n 0, 1) := by decide +kernel
theorem dX1_init_37 : decode cX1_init 37 = .ok (.bipush 8, 2) := by decide +kernel
theorem dX1_init_39 : decode cX1_init 39 = .ok (.newarray .int, 2) := by decide +kernel
theorem dX1_init_41 : decode cX1_init 41 = .ok (.putfield 22, 3) := by decide +kernel
theorem dX1_init_44 : decode cX1_init 44 = .ok (.aload_n 0, 1) := by decide +kernel
theorem dX1_init_45 : decode cX1_init 45 = .ok (.bipush 32, 2) := by decide +kernel
theorem dX1_init_47 : decode cX1_init 47 = .ok (.newarray .int, 2) := by decide +kernel
theorem dX1_init_49 : decode cX1_init 49 = .ok (.putfield 25, 3) := by decide +kernel
theorem dX1_init_52 : decode cX1_init 52 = .ok (.aload_n 0, 1) := by decide +kernel
theorem dX1_init_53 : decode cX1_init 53 = .ok (.bipush 32, 2) := by decide +kernel
theorem dX1_init_55 : decode cX1_init 55 = .ok (.newarray .int, 2) := by decide +kernel
theorem dX1_init_57 : decode cX1_init 57 = .ok (.putfield 28, 3) := by decide +kernel
theorem dX1_init_60 : decode cX1_init 60 = .ok (.aload_n 0, 1) := by decide +kernel
theorem dX1_init_61 : decode cX1_init 61 = .ok (.bipush 32, 2) := by decide +kernel
theorem dX1_init_63 : decode cX1_init 63 = .ok (.newarray .int, 2) := by decide +kernel
theorem dX1_init_65 : decode cX1_init 65 = .ok (.putfield 31, 3) := by decide +kernel
theorem dX1_init_68 : decode cX1_init 68 = .ok (.aload_n 0, 1) := by decide +kernel
theorem dX1_init_69 : decode cX1_init 69 = .ok (.sipush 160, 3) := by decide +kernel
theorem dX1_init_72 : decode cX1_init 72 = .ok (.newarray .int, 2) := by decide +kernel
theorem dX1_init_74 : decode cX1_init 74 = .ok (.putfield 34, 3) := by decide +kernel
theorem dX1_init_77 : decode cX1_init 77 = .ok (.aload_n 0, 1) := by decide +kernel
theorem dX1_init_78 : decode cX1_init 78 = .ok (.bipush 32, 2) := by decide +kernel
theorem dX1_init_80 : decode cX1_init 80 = .ok (.newarray .boolean, 2) := by decide +kernel
theorem dX1_init_82 : decode cX1_init 82 = .ok (.putfield 37, 3) := by decide +kernel
theorem dX1_init_85 : decode cX1_init 85 = .ok (.iconst 0, 1) := by decide +kernel
theorem dX1_init_86 : decode cX1_init 86 = .ok (.istore_n 1, 1) := by decide +kernel
theorem dX1_init_87 : decode cX1_init 87 = .ok (.iload_n 1, 1) := by decide +kernel
theorem dX1_init_88 : decode cX1_init 88 = .ok (.bipush 64, 2) := by decide +kernel
theorem dX1_init_90 : decode cX1_init 90 = .ok (.if_icmp .ge 16, 3) := by decide +kernel
theorem dX1_init_93 : decode cX1_init 93 = .ok (.aload_n 0, 1) := by decide +kernel
theorem dX1_init_94 : decode cX1_init 94 = .ok (.getfield 13, 3) := by decide +kernel
theorem dX1_init_97 : decode cX1_init 97 = .ok (.iload_n 1, 1) := by decide +kernel
theorem dX1_init_98 : decode cX1_init 98 = .ok (.iconst 1, 1) := by decide +kernel
theorem dX1_init_99 : decode cX1_init 99 = .ok (.iastore, 1) := by decide +kernel
theorem dX1_init_100 : decode cX1_init 100 = .ok (.iinc 1 1, 3) := by decide +kernel
theorem dX1_init_103 : decode cX1_init 103 = .ok (.goto (-16), 3) := by decide +kernel
theorem dX1_init_106 : decode cX1_init 106 = .ok (.iconst 0, 1) := by decide +kernel
theorem dX1_init_107 : decode cX1_init 107 = .ok (.istore_n 1, 1) := by decide +kernel
theorem dX1_init_108 : decode cX1_init 108 = .ok (.iload_n 1, 1) := by decide +kernel
theorem dX1_init_109 : decode cX1_init 109 = .ok (.bipush 32, 2) := by decide +kernel
theorem dX1_init_111 : decode cX1_init 111 = .ok (.if_icmp .ge 16, 3) := by decide +kernel
theorem dX1_init_114 : decode cX1_init 114 = .ok (.aload_n 0, 1) := by decide +kernel
theorem dX1_init_115 : decode cX1_init 115 = .ok (.getfield 16, 3) := by decide +kernel
theorem dX1_init_118 : decode cX1_init 118 = .ok (.iload_n 1, 1) := by decide +kernel
theorem dX1_init_119 : decode cX1_init 119 = .ok (.iconst (-1), 1) := by decide +kernel
theorem dX1_init_120 : decode cX1_init 120 = .ok (.iastore, 1) := by decide +kernel
theorem dX1_init_121 : decode cX1_init 121 = .ok (.iinc 1 1, 3) := by decide +kernel
theorem dX1_init_124 : decode cX1_init 124 = .ok (.goto (-16), 3) := by decide +kernel
theorem dX1_init_127 : decode cX1_init 127 = .ok (.return_, 1) := by decide +kernel
theorem dX1_thrown_0 : decode cX1_thrown 0 = .ok (.aload_n 0, 1) := by decide +kernel
theorem dX1_thrown_1 : decode cX1_thrown 1 = .ok (.getfield 41, 3) := by decide +kernel
theorem dX1_thrown_4 : decode cX1_thrown 4 = .ok (.ireturn, 1) := by decide +kernel
theorem dX1_fails_0 : decode cX1_fails 0 = .ok (.aload_n 0, 1) := by decide +kernel
theorem dX1_fails_1 : decode cX1_fails 1 = .ok (.iload_n 1, 1) := by decide +kernel
theorem dX1_fails_2 : decode cX1_fails 2 = .ok (.putfield 41, 3) := by decide +kernel
theorem dX1_fails_5 : decode cX1_fails 5 = .ok (.iconst 0, 1) := by decide +kernel
theorem dX1_fails_6 : decode cX1_fails 6 = .ok (.ireturn, 1) := by decide +kernel
theorem dX1_in_0 : decode cX1_in 0 = .ok (.iload_n 0, 1) := by decide +kernel
theorem dX1_in_1 : decode cX1_in 1 = .ok (.iload_n 1, 1) := by decide +kernel
theorem dX1_in_2 : decode cX1_in 2 = .ok (.if_icmp .lt 12, 3) := by decide +kernel
theorem dX1_in_5 : decode cX1_in 5 = .ok (.iload_n 0, 1) := by decide +kernel
theorem dX1_in_6 : decode cX1_in 6 = .ok (.iload_n 2, 1) := by decide +kernel
theorem dX1_in_7 : decode cX1_in 7 = .ok (.if_icmp .gt 7, 3) := by decide +kernel
theorem dX1_in_10 : decode cX1_in 10 = .ok (.iconst 1, 1) := by decide +kernel
theorem dX1_in_11 : decode cX1_in 11 = .ok (.goto 4, 3) := by decide +kernel
theorem dX1_in_14 : decode cX1_in 14 = .ok (.iconst 0, 1) := by decide +kernel
theorem dX1_in_15 : decode cX1_in 15 = .ok (.ireturn, 1) := by decide +kernel
set_option maxRecDepth 20000 in
theorem ggX1_isGlyph_X1_in : GoodIn wsX1_isGlyph wsX1_in := goodIn_r _ [4] (by decide +kernel) (by decide +kernel)
set_option maxRecDepth 20000 in
theorem gX1_isGlyph_X1_in : GoodIn wsX1_isGlyph (va_wsS RX1 45 yX1_in wsX1_in) := goodIn_app (goodIn_of _ (by decide +kernel)) ggX1_isGlyph_X1_in
theorem dX1_isGlyph_0 : decode cX1_isGlyph 0 = .ok (.iload_n 0, 1) := by decide +kernel
theorem dX1_isGlyph_1 : decode cX1_isGlyph 1 = .ok (.iconst 0, 1) := by decide +kernel
theorem dX1_isGlyph_2 : decode cX1_isGlyph 2 = .ok (.bipush 7, 2) := by decide +kernel
theorem dX1_isGlyph_4 : decode cX1_isGlyph 4 = .ok (.invokestatic 45, 3) := by decide +kernel
theorem dX1_isGlyph_7 : decode cX1_isGlyph 7 = .ok (.ireturn, 1) := by decide +kernel
set_option maxRecDepth 20000 in
theorem ggX1_isPlace_X1_in : GoodIn wsX1_isPlace wsX1_in := goodIn_r _ [4] (by decide +kernel) (by decide +kernel)
set_option maxRecDepth 20000 in
theorem gX1_isPlace_X1_in : GoodIn wsX1_isPlace (va_wsS RX1 45 yX1_in wsX1_in) := goodIn_app (goodIn_of _ (by decide +kernel)) ggX1_isPlace_X1_in
theorem dX1_isPlace_0 : decode cX1_isPlace 0 = .ok (.iload_n 0, 1) := by decide +kernel
theorem dX1_isPlace_1 : decode cX1_isPlace 1 = .ok (.iconst 0, 1) := by decide +kernel
theorem dX1_isPlace_2 : decode cX1_isPlace 2 = .ok (.bipush 7, 2) := by decide +kernel
theorem dX1_isPlace_4 : decode cX1_isPlace 4 = .ok (.invokestatic 45, 3) := by decide +kernel
theorem dX1_isPlace_7 : decode cX1_isPlace 7 = .ok (.ireturn, 1) := by decide +kernel
set_option maxRecDepth 20000 in
theorem ggX1_isExit_X1_isPlace : GoodIn wsX1_isExit wsX1_isPlace := goodIn_r _ [4, 5, 6, 3, 7] (by decide +kernel) (by decide +kernel)
set_option maxRecDepth 20000 in
theorem gX1_isExit_X1_isPlace : GoodIn wsX1_isExit (va_wsS RX1 49 yX1_isPlace wsX1_isPlace) := goodIn_app (goodIn_of _ (by decide +kernel)) ggX1_isExit_X1_isPlace
set_option maxRecDepth 20000 in
theorem ggX1_isExit_X1_in : GoodIn wsX1_isExit wsX1_in := goodIn_r _ [7] (by decide +kernel) (by decide +kernel)
set_option maxRecDepth 20000 in
theorem gX1_isExit_X1_in : GoodIn wsX1_isExit (va_wsS RX1 45 yX1_in wsX1_in) := goodIn_app (goodIn_of _ (by decide +kernel)) ggX1_isExit_X1_in
theorem dX1_isExit_0 : decode cX1_isExit 0 = .ok (.iload_n 0, 1) := by decide +kernel
theorem dX1_isExit_1 : decode cX1_isExit 1 = .ok (.invokestatic 49, 3) := by decide +kernel
theorem dX1_isExit_4 : decode cX1_isExit 4 = .ok (.ifCond .eq 16, 3) := by decide +kernel
theorem dX1_isExit_7 : decode cX1_isExit 7 = .ok (.iload_n 1, 1) := by decide +kernel
theorem dX1_isExit_8 : decode cX1_isExit 8 = .ok (.iconst 0, 1) := by decide +kernel
theorem dX1_isExit_9 : decode cX1_isExit 9 = .ok (.iconst 3, 1) := by decide +kernel
theorem dX1_isExit_10 : decode cX1_isExit 10 = .ok (.invokestatic 45, 3) := by decide +kernel
theorem dX1_isExit_13 : decode cX1_isExit 13 = .ok (.ifCond .eq 7, 3) := by decide +kernel
theorem dX1_isExit_16 : decode cX1_isExit 16 = .ok (.iconst 1, 1) := by decide +kernel
theorem dX1_isExit_17 : decode cX1_isExit 17 = .ok (.goto 4, 3) := by decide +kernel
theorem dX1_isExit_20 : decode cX1_isExit 20 = .ok (.iconst 0, 1) := by decide +kernel
theorem dX1_isExit_21 : decode cX1_isExit 21 = .ok (.ireturn, 1) := by decide +kernel
theorem dX1_power_0 : decode cX1_power 0 = .ok (.iconst 1, 1) := by decide +kernel
theorem dX1_power_1 : decode cX1_power 1 = .ok (.istore_n 1, 1) := by decide +kernel
theorem dX1_power_2 : decode cX1_power 2 = .ok (.iconst 0, 1) := by decide +kernel
theorem dX1_power_3 : decode cX1_power 3 = .ok (.istore_n 2, 1) := by decide +kernel
theorem dX1_power_4 : decode cX1_power 4 = .ok (.iload_n 2, 1) := by decide +kernel
theorem dX1_power_5 : decode cX1_power 5 = .ok (.iload_n 0, 1) := by decide +kernel
theorem dX1_power_6 : decode cX1_power 6 = .ok (.if_icmp .ge 14, 3) := by decide +kernel
theorem dX1_power_9 : decode cX1_power 9 = .ok (.iload_n 1, 1) := by decide +kernel
theorem dX1_power_10 : decode cX1_power 10 = .ok (.bipush 8, 2) := by decide +kernel
theorem dX1_power_12 : decode cX1_power 12 = .ok (.imul, 1) := by decide +kernel
theorem dX1_power_13 : decode cX1_power 13 = .ok (.istore_n 1, 1) := by decide +kernel
theorem dX1_power_14 : decode cX1_power 14 = .ok (.iinc 2 1, 3) := by decide +kernel
theorem dX1_power_17 : decode cX1_power 17 = .ok (.goto (-13), 3) := by decide +kernel
theorem dX1_power_20 : decode cX1_power 20 = .ok (.iload_n 1, 1) := by decide +kernel
theorem dX1_power_21 : decode cX1_power 21 = .ok (.ireturn, 1) := by decide +kernel
set_option maxRecDepth 20000 in
theorem ggX1_isText_X1_in : GoodIn wsX1_isText wsX1_in := goodIn_r _ [4] (by decide +kernel) (by decide +kernel)
set_option maxRecDepth 20000 in
theorem gX1_isText_X1_in : GoodIn wsX1_isText (va_wsS RX1 45 yX1_in wsX1_in) := goodIn_app (goodIn_of _ (by decide +kernel)) ggX1_isText_X1_in
set_option maxRecDepth 20000 in
theorem ggX1_isText_X1_power : GoodIn wsX1_isText wsX1_power := goodIn_r _ [7] (by decide +kernel) (by decide +kernel)
set_option maxRecDepth 20000 in
theorem gX1_isText_X1_power : GoodIn wsX1_isText (va_wsS RX1 53 yX1_power wsX1_power) := goodIn_app (goodIn_of _ (by decide +kernel)) ggX1_isText_X1_power
theorem dX1_isText_0 : decode cX1_isText 0 = .ok (.iload_n 1, 1) := by decide +kernel
theorem dX1_isText_1 : decode cX1_isText 1 = .ok (.iconst 1, 1) := by decide +kernel
theorem dX1_isText_2 : decode cX1_isText 2 = .ok (.iconst 5, 1) := by decide +kernel
theorem dX1_isText_3 : decode cX1_isText 3 = .ok (.invokestatic 45, 3) := by decide +kernel
theorem dX1_isText_6 : decode cX1_isText 6 = .ok (.ifCond .eq 21, 3) := by decide +kernel
theorem dX1_isText_9 : decode cX1_isText 9 = .ok (.iload_n 0, 1) := by decide +kernel
theorem dX1_isText_10 : decode cX1_isText 10 = .ok (.iconst 0, 1) := by decide +kernel
theorem dX1_isText_11 : decode cX1_isText 11 = .ok (.iload_n 1, 1) := by decide +kernel
theorem dX1_isText_12 : decode cX1_isText 12 = .ok (.invokestatic 53, 3) := by decide +kernel
theorem dX1_isText_15 : decode cX1_isText 15 = .ok (.iconst 1, 1) := by decide +kernel
theorem dX1_isText_16 : decode cX1_isText 16 = .ok (.isub, 1) := by decide +kernel
theorem dX1_isText_17 : decode cX1_isText 17 = .ok (.invokestatic 45, 3) := by decide +kernel
theorem dX1_isText_20 : decode cX1_isText 20 = .ok (.ifCond .eq 7, 3) := by decide +kernel
theorem dX1_isText_23 : decode cX1_isText 23 = .ok (.iconst 1, 1) := by decide +kernel
theorem dX1_isText_24 : decode cX1_isText 24 = .ok (.goto 4, 3) := by decide +kernel
theorem dX1_isText_27 : decode cX1_isText 27 = .ok (.iconst 0, 1) := by decide +kernel
theorem dX1_isText_28 : decode cX1_isText 28 = .ok (.ireturn, 1) := by decide +kernel
set_option maxRecDepth 20000 in
theorem ggX1_glyph_X1_power : GoodIn wsX1_glyph wsX1_power := goodIn_r _ [4] (by decide +kernel) (by decide +kernel)
set_option maxRecDepth 20000 in
theorem gX1_glyph_X1_power : GoodIn wsX1_glyph (va_wsS RX1 53 yX1_power wsX1_power) := goodIn_app (goodIn_of _ (by decide +kernel)) ggX1_glyph_X1_power
theorem dX1_glyph_0 : decode cX1_glyph 0 = .ok (.iload_n 0, 1) := by decide +kernel
theorem dX1_glyph_1 : decode cX1_glyph 1 = .ok (.iload_n 1, 1) := by decide +kernel
theorem dX1_glyph_2 : decode cX1_glyph 2 = .ok (.iconst 1, 1) := by decide +kernel
theorem dX1_glyph_3 : decode cX1_glyph 3 = .ok (.isub, 1) := by decide +kernel
theorem dX1_glyph_4 : decode cX1_glyph 4 = .ok (.iload_n 2, 1) := by decide +kernel
theorem dX1_glyph_5 : decode cX1_glyph 5 = .ok (.isub, 1) := by decide +kernel
theorem dX1_glyph_6 : decode cX1_glyph 6 = .ok (.invokestatic 53, 3) := by decide +kernel
theorem dX1_glyph_9 : decode cX1_glyph 9 = .ok (.idiv, 1) := by decide +kernel
theorem dX1_glyph_10 : decode cX1_glyph 10 = .ok (.bipush 8, 2) := by decide +kernel
theorem dX1_glyph_12 : decode cX1_glyph 12 = .ok (.irem, 1) := by decide +kernel
theorem dX1_glyph_13 : decode cX1_glyph 13 = .ok (.ireturn, 1) := by decide +kernel
theorem dX1_bits_0 : decode cX1_bits 0 = .ok (.iconst 0, 1) := by decide +kernel
theorem dX1_bits_1 : decode cX1_bits 1 = .ok (.istore_n 1, 1) := by decide +kernel
theorem dX1_bits_2 : decode cX1_bits 2 = .ok (.iconst 0, 1) := by decide +kernel
theorem dX1_bits_3 : decode cX1_bits 3 = .ok (.istore_n 2, 1) := by decide +kernel
theorem dX1_bits_4 : decode cX1_bits 4 = .ok (.iload_n 2, 1) := by decide +kernel
theorem dX1_bits_5 : decode cX1_bits 5 = .ok (.bipush 25, 2) := by decide +kernel
theorem dX1_bits_7 : decode cX1_bits 7 = .ok (.if_icmp .ge 17, 3) := by decide +kernel
theorem dX1_bits_10 : decode cX1_bits 10 = .ok (.iload_n 1, 1) := by decide +kernel
theorem dX1_bits_11 : decode cX1_bits 11 = .ok (.iload_n 0, 1) := by decide +kernel
theorem dX1_bits_12 : decode cX1_bits 12 = .ok (.iload_n 2, 1) := by decide +kernel
theorem dX1_bits_13 : decode cX1_bits 13 = .ok (.ishr, 1) := by decide +kernel
theorem dX1_bits_14 : decode cX1_bits 14 = .ok (.iconst 1, 1) := by decide +kernel
theorem dX1_bits_15 : decode cX1_bits 15 = .ok (.iand, 1) := by decide +kernel
theorem dX1_bits_16 : decode cX1_bits 16 = .ok (.iadd, 1) := by decide +kernel
theorem dX1_bits_17 : decode cX1_bits 17 = .ok (.istore_n 1, 1) := by decide +kernel
theorem dX1_bits_18 : decode cX1_bits 18 = .ok (.iinc 2 1, 3) := by decide +kernel
theorem dX1_bits_21 : decode cX1_bits 21 = .ok (.goto (-17), 3) := by decide +kernel
theorem dX1_bits_24 : decode cX1_bits 24 = .ok (.iload_n 1, 1) := by decide +kernel
theorem dX1_bits_25 : decode cX1_bits 25 = .ok (.ireturn, 1) := by decide +kernel
set_option maxRecDepth 20000 in
theorem ggX1_stroke_X1_in : GoodIn wsX1_stroke wsX1_in := goodIn_r _ [6] (by decide +kernel) (by decide +kernel)
set_option maxRecDepth 20000 in
theorem gX1_stroke_X1_in : GoodIn wsX1_stroke (va_wsS RX1 45 yX1_in wsX1_in) := goodIn_app (goodIn_of _ (by decide +kernel)) ggX1_stroke_X1_in
set_option maxRecDepth 20000 in
theorem ggX1_stroke_X1_isGlyph : GoodIn wsX1_stroke wsX1_isGlyph := goodIn_r _ [9, 3, 4, 5, 6] (by decide +kernel) (by decide +kernel)
set_option maxRecDepth 20000 in
theorem gX1_stroke_X1_isGlyph : GoodIn wsX1_stroke (va_wsS RX1 57 yX1_isGlyph wsX1_isGlyph) := goodIn_app (goodIn_of _ (by decide +kernel)) ggX1_stroke_X1_isGlyph
set_option maxRecDepth 20000 in
theorem ggX1_stroke_X1_fails : GoodIn wsX1_stroke wsX1_fails := goodIn_r _ [13, 1, 17, 18, 19, 20, 21, 22, 23, 24, 25, 26, 27, 28, 29, 30, 31] (by decide +kernel) (by decide +kernel)
set_option maxRecDepth 20000 in
theorem gX1_stroke_X1_fails : GoodIn wsX1_stroke (wsV RX1 60 RX1 yX1_fails wsX1_fails) := goodIn_app (goodIn_of _ (by decide +kernel)) ggX1_stroke_X1_fails
set_option maxRecDepth 20000 in
theorem ggX1_stroke_X1_bits : GoodIn wsX1_stroke wsX1_bits := goodIn_r _ [16] (by decide +kernel) (by decide +kernel)
set_option maxRecDepth 20000 in
theorem gX1_stroke_X1_bits : GoodIn wsX1_stroke (va_wsS RX1 63 yX1_bits wsX1_bits) := goodIn_app (goodIn_of _ (by decide +kernel)) ggX1_stroke_X1_bits
theorem dX1_stroke_0 : decode cX1_stroke 0 = .ok (.iload_n 2, 1) := by decide +kernel
theorem dX1_stroke_1 : decode cX1_stroke 1 = .ok (.iconst 0, 1) := by decide +kernel
theorem dX1_stroke_2 : decode cX1_stroke 2 = .ok (.iconst 4, 1) := by decide +kernel
theorem dX1_stroke_3 : decode cX1_stroke 3 = .ok (.invokestatic 45, 3) := by decide +kernel
theorem dX1_stroke_6 : decode cX1_stroke 6 = .ok (.ifCond .eq 36, 3) := by decide +kernel
theorem dX1_stroke_9 : decode cX1_stroke 9 = .ok (.iload_n 3, 1) := by decide +kernel
theorem dX1_stroke_10 : decode cX1_stroke 10 = .ok (.iconst 0, 1) := by decide +kernel
theorem dX1_stroke_11 : decode cX1_stroke 11 = .ok (.iconst 4, 1) := by decide +kernel
theorem dX1_stroke_12 : decode cX1_stroke 12 = .ok (.invokestatic 45, 3) := by decide +kernel
theorem dX1_stroke_15 : decode cX1_stroke 15 = .ok (.ifCond .eq 27, 3) := by decide +kernel
theorem dX1_stroke_18 : decode cX1_stroke 18 = .ok (.iload 4, 2) := by decide +kernel
theorem dX1_stroke_20 : decode cX1_stroke 20 = .ok (.iconst 0, 1) := by decide +kernel
theorem dX1_stroke_21 : decode cX1_stroke 21 = .ok (.iconst 4, 1) := by decide +kernel
theorem dX1_stroke_22 : decode cX1_stroke 22 = .ok (.invokestatic 45, 3) := by decide +kernel
theorem dX1_stroke_25 : decode cX1_stroke 25 = .ok (.ifCond .eq 17, 3) := by decide +kernel
theorem dX1_stroke_28 : decode cX1_stroke 28 = .ok (.iload 5, 2) := by decide +kernel
theorem dX1_stroke_30 : decode cX1_stroke 30 = .ok (.iconst 0, 1) := by decide +kernel
theorem dX1_stroke_31 : decode cX1_stroke 31 = .ok (.iconst 4, 1) := by decide +kernel
theorem dX1_stroke_32 : decode cX1_stroke 32 = .ok (.invokestatic 45, 3) := by decide +kernel
theorem dX1_stroke_35 : decode cX1_stroke 35 = .ok (.ifCond .eq 7, 3) := by decide +kernel
theorem dX1_stroke_38 : decode cX1_stroke 38 = .ok (.iconst 1, 1) := by decide +kernel
theorem dX1_stroke_39 : decode cX1_stroke 39 = .ok (.goto 4, 3) := by decide +kernel
theorem dX1_stroke_42 : decode cX1_stroke 42 = .ok (.iconst 0, 1) := by decide +kernel
theorem dX1_stroke_43 : decode cX1_stroke 43 = .ok (.istore 7, 2) := by decide +kernel
theorem dX1_stroke_45 : decode cX1_stroke 45 = .ok (.iload_n 1, 1) := by decide +kernel
theorem dX1_stroke_46 : decode cX1_stroke 46 = .ok (.invokestatic 57, 3) := by decide +kernel
theorem dX1_stroke_49 : decode cX1_stroke 49 = .ok (.ifCond .ne 9, 3) := by decide +kernel
theorem dX1_stroke_52 : decode cX1_stroke 52 = .ok (.aload_n 0, 1) := by decide +kernel
theorem dX1_stroke_53 : decode cX1_stroke 53 = .ok (.iconst 1, 1) := by decide +kernel
theorem dX1_stroke_54 : decode cX1_stroke 54 = .ok (.invokevirtual 60, 3) := by decide +kernel
theorem dX1_stroke_57 : decode cX1_stroke 57 = .ok (.ireturn, 1) := by decide +kernel
theorem dX1_stroke_58 : decode cX1_stroke 58 = .ok (.iload 4, 2) := by decide +kernel
theorem dX1_stroke_60 : decode cX1_stroke 60 = .ok (.iload_n 2, 1) := by decide +kernel
theorem dX1_stroke_61 : decode cX1_stroke 61 = .ok (.isub, 1) := by decide +kernel
theorem dX1_stroke_62 : decode cX1_stroke 62 = .ok (.istore 8, 2) := by decide +kernel
theorem dX1_stroke_64 : decode cX1_stroke 64 = .ok (.iload 5, 2) := by decide +kernel
theorem dX1_stroke_66 : decode cX1_stroke 66 = .ok (.iload_n 3, 1) := by decide +kernel
theorem dX1_stroke_67 : decode cX1_stroke 67 = .ok (.isub, 1) := by decide +kernel
theorem dX1_stroke_68 : decode cX1_stroke 68 = .ok (.istore 9, 2) := by decide +kernel
theorem dX1_stroke_70 : decode cX1_stroke 70 = .ok (.iload 7, 2) := by decide +kernel
theorem dX1_stroke_72 : decode cX1_stroke 72 = .ok (.ifCond .eq 32, 3) := by decide +kernel
theorem dX1_stroke_75 : decode cX1_stroke 75 = .ok (.iload 8, 2) := by decide +kernel
theorem dX1_stroke_77 : decode cX1_stroke 77 = .ok (.ifCond .eq 23, 3) := by decide +kernel
theorem dX1_stroke_80 : decode cX1_stroke 80 = .ok (.iload 9, 2) := by decide +kernel
theorem dX1_stroke_82 : decode cX1_stroke 82 = .ok (.ifCond .eq 18, 3) := by decide +kernel
theorem dX1_stroke_85 : decode cX1_stroke 85 = .ok (.iload 8, 2) := by decide +kernel
theorem dX1_stroke_87 : decode cX1_stroke 87 = .ok (.iload 9, 2) := by decide +kernel
theorem dX1_stroke_89 : decode cX1_stroke 89 = .ok (.if_icmp .eq 11, 3) := by decide +kernel
theorem dX1_stroke_92 : decode cX1_stroke 92 = .ok (.iload 8, 2) := by decide +kernel
theorem dX1_stroke_94 : decode cX1_stroke 94 = .ok (.iload 9, 2) := by decide +kernel
theorem dX1_stroke_96 : decode cX1_stroke 96 = .ok (.ineg, 1) := by decide +kernel
theorem dX1_stroke_97 : decode cX1_stroke 97 = .ok (.if_icmp .ne 7, 3) := by decide +kernel
theorem dX1_stroke_100 : decode cX1_stroke 100 = .ok (.iconst 1, 1) := by decide +kernel
theorem dX1_stroke_101 : decode cX1_stroke 101 = .ok (.goto 4, 3) := by decide +kernel
theorem dX1_stroke_104 : decode cX1_stroke 104 = .ok (.iconst 0, 1) := by decide +kernel
theorem dX1_stroke_105 : decode cX1_stroke 105 = .ok (.istore 10, 2) := by decide +kernel
theorem dX1_stroke_107 : decode cX1_stroke 107 = .ok (.aload_n 0, 1) := by decide +kernel
theorem dX1_stroke_108 : decode cX1_stroke 108 = .ok (.iload 10, 2) := by decide +kernel
theorem dX1_stroke_110 : decode cX1_stroke 110 = .ok (.ifCond .eq 7, 3) := by decide +kernel
theorem dX1_stroke_113 : decode cX1_stroke 113 = .ok (.iconst 0, 1) := by decide +kernel
theorem dX1_stroke_114 : decode cX1_stroke 114 = .ok (.goto 4, 3) := by decide +kernel
theorem dX1_stroke_117 : decode cX1_stroke 117 = .ok (.iconst 2, 1) := by decide +kernel
theorem dX1_stroke_118 : decode cX1_stroke 118 = .ok (.putfield 41, 3) := by decide +kernel
theorem dX1_stroke_121 : decode cX1_stroke 121 = .ok (.aload_n 0, 1) := by decide +kernel
theorem dX1_stroke_122 : decode cX1_stroke 122 = .ok (.getfield 41, 3) := by decide +kernel
theorem dX1_stroke_125 : decode cX1_stroke 125 = .ok (.ifCond .le 5, 3) := by decide +kernel
theorem dX1_stroke_128 : decode cX1_stroke 128 = .ok (.iconst 0, 1) := by decide +kernel
theorem dX1_stroke_129 : decode cX1_stroke 129 = .ok (.ireturn, 1) := by decide +kernel
theorem dX1_stroke_130 : decode cX1_stroke 130 = .ok (.iload 8, 2) := by decide +kernel
theorem dX1_stroke_132 : decode cX1_stroke 132 = .ok (.ifCond .ge 9, 3) := by decide +kernel
theorem dX1_stroke_135 : decode cX1_stroke 135 = .ok (.iload 8, 2) := by decide +kernel
theorem dX1_stroke_137 : decode cX1_stroke 137 = .ok (.ineg, 1) := by decide +kernel
theorem dX1_stroke_138 : decode cX1_stroke 138 = .ok (.goto 5, 3) := by decide +kernel
theorem dX1_stroke_141 : decode cX1_stroke 141 = .ok (.iload 8, 2) := by decide +kernel
theorem dX1_stroke_143 : decode cX1_stroke 143 = .ok (.istore 11, 2) := by decide +kernel
theorem dX1_stroke_145 : decode cX1_stroke 145 = .ok (.iload 9, 2) := by decide +kernel
theorem dX1_stroke_147 : decode cX1_stroke 147 = .ok (.ifCond .ge 9, 3) := by decide +kernel
theorem dX1_stroke_150 : decode cX1_stroke 150 = .ok (.iload 9, 2) := by decide +kernel
theorem dX1_stroke_152 : decode cX1_stroke 152 = .ok (.ineg, 1) := by decide +kernel
theorem dX1_stroke_153 : decode cX1_stroke 153 = .ok (.goto 5, 3) := by decide +kernel
theorem dX1_stroke_156 : decode cX1_stroke 156 = .ok (.iload 9, 2) := by decide +kernel
theorem dX1_stroke_158 : decode cX1_stroke 158 = .ok (.istore 12, 2) := by decide +kernel
theorem dX1_stroke_160 : decode cX1_stroke 160 = .ok (.iload 11, 2) := by decide +kernel
theorem dX1_stroke_162 : decode cX1_stroke 162 = .ok (.iload 12, 2) := by decide +kernel
theorem dX1_stroke_164 : decode cX1_stroke 164 = .ok (.if_icmp .le 8, 3) := by decide +kernel
theorem dX1_stroke_167 : decode cX1_stroke 167 = .ok (.iload 11, 2) := by decide +kernel
theorem dX1_stroke_169 : decode cX1_stroke 169 = .ok (.goto 5, 3) := by decide +kernel
theorem dX1_stroke_172 : decode cX1_stroke 172 = .ok (.iload 12, 2) := by decide +kernel
theorem dX1_stroke_174 : decode cX1_stroke 174 = .ok (.istore 13, 2) := by decide +kernel
theorem dX1_stroke_176 : decode cX1_stroke 176 = .ok (.aload_n 0, 1) := by decide +kernel
theorem dX1_stroke_177 : decode cX1_stroke 177 = .ok (.getfield 7, 3) := by decide +kernel
theorem dX1_stroke_180 : decode cX1_stroke 180 = .ok (.iload_n 1, 1) := by decide +kernel
theorem dX1_stroke_181 : decode cX1_stroke 181 = .ok (.iaload, 1) := by decide +kernel
theorem dX1_stroke_182 : decode cX1_stroke 182 = .ok (.istore 14, 2) := by decide +kernel
theorem dX1_stroke_184 : decode cX1_stroke 184 = .ok (.iconst 0, 1) := by decide +kernel
theorem dX1_stroke_185 : decode cX1_stroke 185 = .ok (.istore 15, 2) := by decide +kernel
theorem dX1_stroke_187 : decode cX1_stroke 187 = .ok (.iload 15, 2) := by decide +kernel
theorem dX1_stroke_189 : decode cX1_stroke 189 = .ok (.iload 13, 2) := by decide +kernel
theorem dX1_stroke_191 : decode cX1_stroke 191 = .ok (.if_icmp .gt 106, 3) := by decide +kernel
theorem dX1_stroke_194 : decode cX1_stroke 194 = .ok (.iload_n 2, 1) := by decide +kernel
theorem dX1_stroke_195 : decode cX1_stroke 195 = .ok (.iload 8, 2) := by decide +kernel
theorem dX1_stroke_197 : decode cX1_stroke 197 = .ok (.ifCond .le 8, 3) := by decide +kernel
theorem dX1_stroke_200 : decode cX1_stroke 200 = .ok (.iload 15, 2) := by decide +kernel
theorem dX1_stroke_202 : decode cX1_stroke 202 = .ok (.goto 15, 3) := by decide +kernel
theorem dX1_stroke_205 : decode cX1_stroke 205 = .ok (.iload 8, 2) := by decide +kernel
theorem dX1_stroke_207 : decode cX1_stroke 207 = .ok (.ifCond .ge 9, 3) := by decide +kernel
theorem dX1_stroke_210 : decode cX1_stroke 210 = .ok (.iload 15, 2) := by decide +kernel
theorem dX1_stroke_212 : decode cX1_stroke 212 = .ok (.ineg, 1) := by decide +kernel
theorem dX1_stroke_213 : decode cX1_stroke 213 = .ok (.goto 4, 3) := by decide +kernel
theorem dX1_stroke_216 : decode cX1_stroke 216 = .ok (.iconst 0, 1) := by decide +kernel
theorem dX1_stroke_217 : decode cX1_stroke 217 = .ok (.iadd, 1) := by decide +kernel
theorem dX1_stroke_218 : decode cX1_stroke 218 = .ok (.istore 16, 2) := by decide +kernel
theorem dX1_stroke_220 : decode cX1_stroke 220 = .ok (.iload_n 3, 1) := by decide +kernel
theorem dX1_stroke_221 : decode cX1_stroke 221 = .ok (.iload 9, 2) := by decide +kernel
theorem dX1_stroke_223 : decode cX1_stroke 223 = .ok (.ifCond .le 8, 3) := by decide +kernel
theorem dX1_stroke_226 : decode cX1_stroke 226 = .ok (.iload 15, 2) := by decide +kernel
theorem dX1_stroke_228 : decode cX1_stroke 228 = .ok (.goto 15, 3) := by decide +kernel
theorem dX1_stroke_231 : decode cX1_stroke 231 = .ok (.iload 9, 2) := by decide +kernel
theorem dX1_stroke_233 : decode cX1_stroke 233 = .ok (.ifCond .ge 9, 3) := by decide +kernel
theorem dX1_stroke_236 : decode cX1_stroke 236 = .ok (.iload 15, 2) := by decide +kernel
theorem dX1_stroke_238 : decode cX1_stroke 238 = .ok (.ineg, 1) := by decide +kernel
theorem dX1_stroke_239 : decode cX1_stroke 239 = .ok (.goto 4, 3) := by decide +kernel
theorem dX1_stroke_242 : decode cX1_stroke 242 = .ok (.iconst 0, 1) := by decide +kernel
theorem dX1_stroke_243 : decode cX1_stroke 243 = .ok (.iadd, 1) := by decide +kernel
theorem dX1_stroke_244 : decode cX1_stroke 244 = .ok (.istore 17, 2) := by decide +kernel
theorem dX1_stroke_246 : decode cX1_stroke 246 = .ok (.iconst 1, 1) := by decide +kernel
theorem dX1_stroke_247 : decode cX1_stroke 247 = .ok (.iconst 5, 1) := by decide +kernel
theorem dX1_stroke_248 : decode cX1_stroke 248 = .ok (.iload 17, 2) := by decide +kernel
theorem dX1_stroke_250 : decode cX1_stroke 250 = .ok (.imul, 1) := by decide +kernel
theorem dX1_stroke_251 : decode cX1_stroke 251 = .ok (.iload 16, 2) := by decide +kernel
theorem dX1_stroke_253 : decode cX1_stroke 253 = .ok (.iadd, 1) := by decide +kernel
theorem dX1_stroke_254 : decode cX1_stroke 254 = .ok (.ishl, 1) := by decide +kernel
theorem dX1_stroke_255 : decode cX1_stroke 255 = .ok (.istore 18, 2) := by decide +kernel
theorem dX1_stroke_257 : decode cX1_stroke 257 = .ok (.aload_n 0, 1) := by decide +kernel
theorem dX1_stroke_258 : decode cX1_stroke 258 = .ok (.getfield 7, 3) := by decide +kernel
theorem dX1_stroke_261 : decode cX1_stroke 261 = .ok (.iload_n 1, 1) := by decide +kernel
theorem dX1_stroke_262 : decode cX1_stroke 262 = .ok (.iload 6, 2) := by decide +kernel
theorem dX1_stroke_264 : decode cX1_stroke 264 = .ok (.ifCond .eq 15, 3) := by decide +kernel
theorem dX1_stroke_267 : decode cX1_stroke 267 = .ok (.aload_n 0, 1) := by decide +kernel
theorem dX1_stroke_268 : decode cX1_stroke 268 = .ok (.getfield 7, 3) := by decide +kernel
theorem dX1_stroke_271 : decode cX1_stroke 271 = .ok (.iload_n 1, 1) := by decide +kernel
theorem dX1_stroke_272 : decode cX1_stroke 272 = .ok (.iaload, 1) := by decide +kernel
theorem dX1_stroke_273 : decode cX1_stroke 273 = .ok (.iload 18, 2) := by decide +kernel
theorem dX1_stroke_275 : decode cX1_stroke 275 = .ok (.ior, 1) := by decide +kernel
theorem dX1_stroke_276 : decode cX1_stroke 276 = .ok (.goto 14, 3) := by decide +kernel
theorem dX1_stroke_279 : decode cX1_stroke 279 = .ok (.aload_n 0, 1) := by decide +kernel
theorem dX1_stroke_280 : decode cX1_stroke 280 = .ok (.getfield 7, 3) := by decide +kernel
theorem dX1_stroke_283 : decode cX1_stroke 283 = .ok (.iload_n 1, 1) := by decide +kernel
theorem dX1_stroke_284 : decode cX1_stroke 284 = .ok (.iaload, 1) := by decide +kernel
theorem dX1_stroke_285 : decode cX1_stroke 285 = .ok (.iload 18, 2) := by decide +kernel
theorem dX1_stroke_287 : decode cX1_stroke 287 = .ok (.iconst (-1), 1) := by decide +kernel
theorem dX1_stroke_288 : decode cX1_stroke 288 = .ok (.ixor, 1) := by decide +kernel
theorem dX1_stroke_289 : decode cX1_stroke 289 = .ok (.iand, 1) := by decide +kernel
theorem dX1_stroke_290 : decode cX1_stroke 290 = .ok (.iastore, 1) := by decide +kernel
theorem dX1_stroke_291 : decode cX1_stroke 291 = .ok (.iinc 15 1, 3) := by decide +kernel
theorem dX1_stroke_294 : decode cX1_stroke 294 = .ok (.goto (-107), 3) := by decide +kernel
theorem dX1_stroke_297 : decode cX1_stroke 297 = .ok (.iload 14, 2) := by decide +kernel
theorem dX1_stroke_299 : decode cX1_stroke 299 = .ok (.aload_n 0, 1) := by decide +kernel
theorem dX1_stroke_300 : decode cX1_stroke 300 = .ok (.getfield 7, 3) := by decide +kernel
theorem dX1_stroke_303 : decode cX1_stroke 303 = .ok (.iload_n 1, 1) := by decide +kernel
theorem dX1_stroke_304 : decode cX1_stroke 304 = .ok (.iaload, 1) := by decide +kernel
theorem dX1_stroke_305 : decode cX1_stroke 305 = .ok (.ixor, 1) := by decide +kernel
theorem dX1_stroke_306 : decode cX1_stroke 306 = .ok (.invokestatic 63, 3) := by decide +kernel
theorem dX1_stroke_309 : decode cX1_stroke 309 = .ok (.ireturn, 1) := by decide +kernel
set_option maxRecDepth 20000 in
theorem ggX1_difference_X1_isGlyph : GoodIn wsX1_difference wsX1_isGlyph := goodIn_r _ [6, 7, 8, 5, 9] (by decide +kernel) (by decide +kernel)
set_option maxRecDepth 20000 in
theorem gX1_difference_X1_isGlyph : GoodIn wsX1_difference (va_wsS RX1 57 yX1_isGlyph wsX1_isGlyph) := goodIn_app (goodIn_of _ (by decide +kernel)) ggX1_difference_X1_isGlyph
set_option maxRecDepth 20000 in
theorem ggX1_difference_X1_bits : GoodIn wsX1_difference wsX1_bits := goodIn_r _ [12] (by decide +kernel) (by decide +kernel)
set_option maxRecDepth 20000 in
theorem gX1_difference_X1_bits : GoodIn wsX1_difference (va_wsS RX1 63 yX1_bits wsX1_bits) := goodIn_app (goodIn_of _ (by decide +kernel)) ggX1_difference_X1_bits
set_option maxRecDepth 20000 in
theorem ggX1_difference_X1_fails : GoodIn wsX1_difference wsX1_fails := goodIn_r _ [16, 1, 17, 18, 19, 20, 21, 22, 23, 24, 25, 26, 27, 28, 29, 30, 31] (by decide +kernel) (by decide +kernel)
set_option maxRecDepth 20000 in
theorem gX1_difference_X1_fails : GoodIn wsX1_difference (wsV RX1 60 RX1 yX1_fails wsX1_fails) := goodIn_app (goodIn_of _ (by decide +kernel)) ggX1_difference_X1_fails
theorem dX1_difference_0 : decode cX1_difference 0 = .ok (.aload_n 0, 1) := by decide +kernel
theorem dX1_difference_1 : decode cX1_difference 1 = .ok (.iconst 0, 1) := by decide +kernel
theorem dX1_difference_2 : decode cX1_difference 2 = .ok (.putfield 41, 3) := by decide +kernel
theorem dX1_difference_5 : decode cX1_difference 5 = .ok (.iload_n 1, 1) := by decide +kernel
theorem dX1_difference_6 : decode cX1_difference 6 = .ok (.invokestatic 57, 3) := by decide +kernel
theorem dX1_difference_9 : decode cX1_difference 9 = .ok (.ifCond .eq 29, 3) := by decide +kernel
theorem dX1_difference_12 : decode cX1_difference 12 = .ok (.iload_n 2, 1) := by decide +kernel
theorem dX1_difference_13 : decode cX1_difference 13 = .ok (.invokestatic 57, 3) := by decide +kernel
theorem dX1_difference_16 : decode cX1_difference 16 = .ok (.ifCond .eq 22, 3) := by decide +kernel
theorem dX1_difference_19 : decode cX1_difference 19 = .ok (.aload_n 0, 1) := by decide +kernel
theorem dX1_difference_20 : decode cX1_difference 20 = .ok (.getfield 7, 3) := by decide +kernel
theorem dX1_difference_23 : decode cX1_difference 23 = .ok (.iload_n 1, 1) := by decide +kernel
theorem dX1_difference_24 : decode cX1_difference 24 = .ok (.iaload, 1) := by decide +kernel
theorem dX1_difference_25 : decode cX1_difference 25 = .ok (.aload_n 0, 1) := by decide +kernel
theorem dX1_difference_26 : decode cX1_difference 26 = .ok (.getfield 7, 3) := by decide +kernel
theorem dX1_difference_29 : decode cX1_difference 29 = .ok (.iload_n 2, 1) := by decide +kernel
theorem dX1_difference_30 : decode cX1_difference 30 = .ok (.iaload, 1) := by decide +kernel
theorem dX1_difference_31 : decode cX1_difference 31 = .ok (.ixor, 1) := by decide +kernel
theorem dX1_difference_32 : decode cX1_difference 32 = .ok (.invokestatic 63, 3) := by decide +kernel
theorem dX1_difference_35 : decode cX1_difference 35 = .ok (.goto 8, 3) := by decide +kernel
theorem dX1_difference_38 : decode cX1_difference 38 = .ok (.aload_n 0, 1) := by decide +kernel
theorem dX1_difference_39 : decode cX1_difference 39 = .ok (.iconst 1, 1) := by decide +kernel
theorem dX1_difference_40 : decode cX1_difference 40 = .ok (.invokevirtual 60, 3) := by decide +kernel
theorem dX1_difference_43 : decode cX1_difference 43 = .ok (.ireturn, 1) := by decide +kernel
theorem dX1_widthOf_0 : decode cX1_widthOf 0 = .ok (.iconst (-1), 1) := by decide +kernel
theorem dX1_widthOf_1 : decode cX1_widthOf 1 = .ok (.istore_n 2, 1) := by decide +kernel
theorem dX1_widthOf_2 : decode cX1_widthOf 2 = .ok (.iconst (-1), 1) := by decide +kernel
theorem dX1_widthOf_3 : decode cX1_widthOf 3 = .ok (.istore_n 3, 1) := by decide +kernel
theorem dX1_widthOf_4 : decode cX1_widthOf 4 = .ok (.iconst 0, 1) := by decide +kernel
theorem dX1_widthOf_5 : decode cX1_widthOf 5 = .ok (.istore 4, 2) := by decide +kernel
theorem dX1_widthOf_7 : decode cX1_widthOf 7 = .ok (.iload 4, 2) := by decide +kernel
theorem dX1_widthOf_9 : decode cX1_widthOf 9 = .ok (.iconst 5, 1) := by decide +kernel
theorem dX1_widthOf_10 : decode cX1_widthOf 10 = .ok (.if_icmp .ge 88, 3) := by decide +kernel
theorem dX1_widthOf_13 : decode cX1_widthOf 13 = .ok (.iconst 0, 1) := by decide +kernel
theorem dX1_widthOf_14 : decode cX1_widthOf 14 = .ok (.istore 5, 2) := by decide +kernel
theorem dX1_widthOf_16 : decode cX1_widthOf 16 = .ok (.iconst 0, 1) := by decide +kernel
theorem dX1_widthOf_17 : decode cX1_widthOf 17 = .ok (.istore 6, 2) := by decide +kernel
theorem dX1_widthOf_19 : decode cX1_widthOf 19 = .ok (.iload 6, 2) := by decide +kernel
theorem dX1_widthOf_21 : decode cX1_widthOf 21 = .ok (.iconst 5, 1) := by decide +kernel
theorem dX1_widthOf_22 : decode cX1_widthOf 22 = .ok (.if_icmp .ge 41, 3) := by decide +kernel
theorem dX1_widthOf_25 : decode cX1_widthOf 25 = .ok (.iload 5, 2) := by decide +kernel
theorem dX1_widthOf_27 : decode cX1_widthOf 27 = .ok (.ifCond .ne 23, 3) := by decide +kernel
theorem dX1_widthOf_30 : decode cX1_widthOf 30 = .ok (.aload_n 0, 1) := by decide +kernel
theorem dX1_widthOf_31 : decode cX1_widthOf 31 = .ok (.getfield 7, 3) := by decide +kernel
theorem dX1_widthOf_34 : decode cX1_widthOf 34 = .ok (.iload_n 1, 1) := by decide +kernel
theorem dX1_widthOf_35 : decode cX1_widthOf 35 = .ok (.iaload, 1) := by decide +kernel
theorem dX1_widthOf_36 : decode cX1_widthOf 36 = .ok (.iconst 5, 1) := by decide +kernel
theorem dX1_widthOf_37 : decode cX1_widthOf 37 = .ok (.iload 6, 2) := by decide +kernel
theorem dX1_widthOf_39 : decode cX1_widthOf 39 = .ok (.imul, 1) := by decide +kernel
theorem dX1_widthOf_40 : decode cX1_widthOf 40 = .ok (.iload 4, 2) := by decide +kernel
theorem dX1_widthOf_42 : decode cX1_widthOf 42 = .ok (.iadd, 1) := by decide +kernel
theorem dX1_widthOf_43 : decode cX1_widthOf 43 = .ok (.ishr, 1) := by decide +kernel
theorem dX1_widthOf_44 : decode cX1_widthOf 44 = .ok (.iconst 1, 1) := by decide +kernel
theorem dX1_widthOf_45 : decode cX1_widthOf 45 = .ok (.iand, 1) := by decide +kernel
theorem dX1_widthOf_46 : decode cX1_widthOf 46 = .ok (.iconst 1, 1) := by decide +kernel
theorem dX1_widthOf_47 : decode cX1_widthOf 47 = .ok (.if_icmp .ne 7, 3) := by decide +kernel
theorem dX1_widthOf_50 : decode cX1_widthOf 50 = .ok (.iconst 1, 1) := by decide +kernel
theorem dX1_widthOf_51 : decode cX1_widthOf 51 = .ok (.goto 4, 3) := by decide +kernel
theorem dX1_widthOf_54 : decode cX1_widthOf 54 = .ok (.iconst 0, 1) := by decide +kernel
theorem dX1_widthOf_55 : decode cX1_widthOf 55 = .ok (.istore 5, 2) := by decide +kernel
theorem dX1_widthOf_57 : decode cX1_widthOf 57 = .ok (.iinc 6 1, 3) := by decide +kernel
theorem dX1_widthOf_60 : decode cX1_widthOf 60 = .ok (.goto (-41), 3) := by decide +kernel
theorem dX1_widthOf_63 : decode cX1_widthOf 63 = .ok (.iload 5, 2) := by decide +kernel
theorem dX1_widthOf_65 : decode cX1_widthOf 65 = .ok (.ifCond .eq 13, 3) := by decide +kernel
theorem dX1_widthOf_68 : decode cX1_widthOf 68 = .ok (.iload_n 2, 1) := by decide +kernel
theorem dX1_widthOf_69 : decode cX1_widthOf 69 = .ok (.iconst (-1), 1) := by decide +kernel
theorem dX1_widthOf_70 : decode cX1_widthOf 70 = .ok (.if_icmp .ne 8, 3) := by decide +kernel
theorem dX1_widthOf_73 : decode cX1_widthOf 73 = .ok (.iload 4, 2) := by decide +kernel
theorem dX1_widthOf_75 : decode cX1_widthOf 75 = .ok (.goto 4, 3) := by decide +kernel
theorem dX1_widthOf_78 : decode cX1_widthOf 78 = .ok (.iload_n 2, 1) := by decide +kernel
theorem dX1_widthOf_79 : decode cX1_widthOf 79 = .ok (.istore_n 2, 1) := by decide +kernel
theorem dX1_widthOf_80 : decode cX1_widthOf 80 = .ok (.iload 5, 2) := by decide +kernel
theorem dX1_widthOf_82 : decode cX1_widthOf 82 = .ok (.ifCond .eq 8, 3) := by decide +kernel
theorem dX1_widthOf_85 : decode cX1_widthOf 85 = .ok (.iload 4, 2) := by decide +kernel
theorem dX1_widthOf_87 : decode cX1_widthOf 87 = .ok (.goto 4, 3) := by decide +kernel
theorem dX1_widthOf_90 : decode cX1_widthOf 90 = .ok (.iload_n 3, 1) := by decide +kernel
theorem dX1_widthOf_91 : decode cX1_widthOf 91 = .ok (.istore_n 3, 1) := by decide +kernel
theorem dX1_widthOf_92 : decode cX1_widthOf 92 = .ok (.iinc 4 1, 3) := by decide +kernel
theorem dX1_widthOf_95 : decode cX1_widthOf 95 = .ok (.goto (-88), 3) := by decide +kernel
theorem dX1_widthOf_98 : decode cX1_widthOf 98 = .ok (.iload_n 2, 1) := by decide +kernel
theorem dX1_widthOf_99 : decode cX1_widthOf 99 = .ok (.iconst (-1), 1) := by decide +kernel
theorem dX1_widthOf_100 : decode cX1_widthOf 100 = .ok (.if_icmp .ne 7, 3) := by decide +kernel
theorem dX1_widthOf_103 : decode cX1_widthOf 103 = .ok (.iconst 2, 1) := by decide +kernel
theorem dX1_widthOf_104 : decode cX1_widthOf 104 = .ok (.goto 8, 3) := by decide +kernel
theorem dX1_widthOf_107 : decode cX1_widthOf 107 = .ok (.iload_n 3, 1) := by decide +kernel
theorem dX1_widthOf_108 : decode cX1_widthOf 108 = .ok (.iload_n 2, 1) := by decide +kernel
theorem dX1_widthOf_109 : decode cX1_widthOf 109 = .ok (.isub, 1) := by decide +kernel
theorem dX1_widthOf_110 : decode cX1_widthOf 110 = .ok (.iconst 1, 1) := by decide +kernel
theorem dX1_widthOf_111 : decode cX1_widthOf 111 = .ok (.iadd, 1) := by decide +kernel
theorem dX1_widthOf_112 : decode cX1_widthOf 112 = .ok (.ireturn, 1) := by decide +kernel
set_option maxRecDepth 20000 in
theorem ggX1_width_X1_isGlyph : GoodIn wsX1_width wsX1_isGlyph := goodIn_r _ [5, 6, 7, 4, 8] (by decide +kernel) (by decide +kernel)
set_option maxRecDepth 20000 in
theorem gX1_width_X1_isGlyph : GoodIn wsX1_width (va_wsS RX1 57 yX1_isGlyph wsX1_isGlyph) := goodIn_app (goodIn_of _ (by decide +kernel)) ggX1_width_X1_isGlyph
set_option maxRecDepth 20000 in
theorem ggX1_width_X1_widthOf : GoodIn wsX1_width wsX1_widthOf := goodIn_r _ [12, 13, 18, 19, 20, 21, 22, 23, 24, 25, 26, 27, 28, 29, 30, 31, 32] (by decide +kernel) (by decide +kernel)
set_option maxRecDepth 20000 in
theorem gX1_width_X1_widthOf : GoodIn wsX1_width (wsV RX1 66 RX1 yX1_widthOf wsX1_widthOf) := goodIn_app (goodIn_of _ (by decide +kernel)) ggX1_width_X1_widthOf
set_option maxRecDepth 20000 in
theorem ggX1_width_X1_fails : GoodIn wsX1_width wsX1_fails := goodIn_r _ [17, 1, 18, 19, 20, 21, 22, 23, 24, 25, 26, 27, 28, 29, 30, 31, 32] (by decide +kernel) (by decide +kernel)
set_option maxRecDepth 20000 in
theorem gX1_width_X1_fails : GoodIn wsX1_width (wsV RX1 60 RX1 yX1_fails wsX1_fails) := goodIn_app (goodIn_of _ (by decide +kernel)) ggX1_width_X1_fails
theorem dX1_width_0 : decode cX1_width 0 = .ok (.aload_n 0, 1) := by decide +kernel
theorem dX1_width_1 : decode cX1_width 1 = .ok (.iconst 0, 1) := by decide +kernel
theorem dX1_width_2 : decode cX1_width 2 = .ok (.putfield 41, 3) := by decide +kernel
theorem dX1_width_5 : decode cX1_width 5 = .ok (.iload_n 1, 1) := by decide +kernel
theorem dX1_width_6 : decode cX1_width 6 = .ok (.invokestatic 57, 3) := by decide +kernel
theorem dX1_width_9 : decode cX1_width 9 = .ok (.ifCond .eq 11, 3) := by decide +kernel
theorem dX1_width_12 : decode cX1_width 12 = .ok (.aload_n 0, 1) := by decide +kernel
theorem dX1_width_13 : decode cX1_width 13 = .ok (.iload_n 1, 1) := by decide +kernel
theorem dX1_width_14 : decode cX1_width 14 = .ok (.invokevirtual 66, 3) := by decide +kernel
theorem dX1_width_17 : decode cX1_width 17 = .ok (.goto 8, 3) := by decide +kernel
theorem dX1_width_20 : decode cX1_width 20 = .ok (.aload_n 0, 1) := by decide +kernel
theorem dX1_width_21 : decode cX1_width 21 = .ok (.iconst 1, 1) := by decide +kernel
theorem dX1_width_22 : decode cX1_width 22 = .ok (.invokevirtual 60, 3) := by decide +kernel
theorem dX1_width_25 : decode cX1_width 25 = .ok (.ireturn, 1) := by decide +kernel
set_option maxRecDepth 20000 in
theorem ggX1_space_X1_isGlyph : GoodIn wsX1_space wsX1_isGlyph := goodIn_r _ [6, 7, 8, 5, 9] (by decide +kernel) (by decide +kernel)
set_option maxRecDepth 20000 in
theorem gX1_space_X1_isGlyph : GoodIn wsX1_space (va_wsS RX1 57 yX1_isGlyph wsX1_isGlyph) := goodIn_app (goodIn_of _ (by decide +kernel)) ggX1_space_X1_isGlyph
set_option maxRecDepth 20000 in
theorem ggX1_space_X1_in : GoodIn wsX1_space wsX1_in := goodIn_r _ [9] (by decide +kernel) (by decide +kernel)
set_option maxRecDepth 20000 in
theorem gX1_space_X1_in : GoodIn wsX1_space (va_wsS RX1 45 yX1_in wsX1_in) := goodIn_app (goodIn_of _ (by decide +kernel)) ggX1_space_X1_in
theorem dX1_space_0 : decode cX1_space 0 = .ok (.aload_n 0, 1) := by decide +kernel
theorem dX1_space_1 : decode cX1_space 1 = .ok (.iload_n 1, 1) := by decide +kernel
theorem dX1_space_2 : decode cX1_space 2 = .ok (.invokestatic 57, 3) := by decide +kernel
theorem dX1_space_5 : decode cX1_space 5 = .ok (.ifCond .eq 10, 3) := by decide +kernel
theorem dX1_space_8 : decode cX1_space 8 = .ok (.iload_n 2, 1) := by decide +kernel
theorem dX1_space_9 : decode cX1_space 9 = .ok (.invokestatic 57, 3) := by decide +kernel
theorem dX1_space_12 : decode cX1_space 12 = .ok (.ifCond .ne 7, 3) := by decide +kernel
theorem dX1_space_15 : decode cX1_space 15 = .ok (.iconst 1, 1) := by decide +kernel
theorem dX1_space_16 : decode cX1_space 16 = .ok (.goto 17, 3) := by decide +kernel
theorem dX1_space_19 : decode cX1_space 19 = .ok (.iload_n 3, 1) := by decide +kernel
theorem dX1_space_20 : decode cX1_space 20 = .ok (.iconst (-1), 1) := by decide +kernel
theorem dX1_space_21 : decode cX1_space 21 = .ok (.iconst 3, 1) := by decide +kernel
theorem dX1_space_22 : decode cX1_space 22 = .ok (.invokestatic 45, 3) := by decide +kernel
theorem dX1_space_25 : decode cX1_space 25 = .ok (.ifCond .eq 7, 3) := by decide +kernel
theorem dX1_space_28 : decode cX1_space 28 = .ok (.iconst 0, 1) := by decide +kernel
theorem dX1_space_29 : decode cX1_space 29 = .ok (.goto 4, 3) := by decide +kernel
theorem dX1_space_32 : decode cX1_space 32 = .ok (.iconst 2, 1) := by decide +kernel
theorem dX1_space_33 : decode cX1_space 33 = .ok (.putfield 41, 3) := by decide +kernel
theorem dX1_space_36 : decode cX1_space 36 = .ok (.aload_n 0, 1) := by decide +kernel
theorem dX1_space_37 : decode cX1_space 37 = .ok (.getfield 41, 3) := by decide +kernel
theorem dX1_space_40 : decode cX1_space 40 = .ok (.ifCond .le 5, 3) := by decide +kernel
theorem dX1_space_43 : decode cX1_space 43 = .ok (.iconst 0, 1) := by decide +kernel
theorem dX1_space_44 : decode cX1_space 44 = .ok (.ireturn, 1) := by decide +kernel
theorem dX1_space_45 : decode cX1_space 45 = .ok (.aload_n 0, 1) := by decide +kernel
theorem dX1_space_46 : decode cX1_space 46 = .ok (.getfield 13, 3) := by decide +kernel
theorem dX1_space_49 : decode cX1_space 49 = .ok (.bipush 8, 2) := by decide +kernel
theorem dX1_space_51 : decode cX1_space 51 = .ok (.iload_n 1, 1) := by decide +kernel
theorem dX1_space_52 : decode cX1_space 52 = .ok (.imul, 1) := by decide +kernel
theorem dX1_space_53 : decode cX1_space 53 = .ok (.iload_n 2, 1) := by decide +kernel
theorem dX1_space_54 : decode cX1_space 54 = .ok (.iadd, 1) := by decide +kernel
theorem dX1_space_55 : decode cX1_space 55 = .ok (.iaload, 1) := by decide +kernel
theorem dX1_space_56 : decode cX1_space 56 = .ok (.istore 4, 2) := by decide +kernel
theorem dX1_space_58 : decode cX1_space 58 = .ok (.aload_n 0, 1) := by decide +kernel
theorem dX1_space_59 : decode cX1_space 59 = .ok (.getfield 13, 3) := by decide +kernel
theorem dX1_space_62 : decode cX1_space 62 = .ok (.bipush 8, 2) := by decide +kernel
theorem dX1_space_64 : decode cX1_space 64 = .ok (.iload_n 1, 1) := by decide +kernel
theorem dX1_space_65 : decode cX1_space 65 = .ok (.imul, 1) := by decide +kernel
theorem dX1_space_66 : decode cX1_space 66 = .ok (.iload_n 2, 1) := by decide +kernel
theorem dX1_space_67 : decode cX1_space 67 = .ok (.iadd, 1) := by decide +kernel
theorem dX1_space_68 : decode cX1_space 68 = .ok (.iload_n 3, 1) := by decide +kernel
theorem dX1_space_69 : decode cX1_space 69 = .ok (.iastore, 1) := by decide +kernel
theorem dX1_space_70 : decode cX1_space 70 = .ok (.iload 4, 2) := by decide +kernel
theorem dX1_space_72 : decode cX1_space 72 = .ok (.ireturn, 1) := by decide +kernel
set_option maxRecDepth 20000 in
theorem ggX1_lead_X1_isExit : GoodIn wsX1_lead wsX1_isExit := goodIn_r _ [6, 7, 8, 5, 9, 10, 11, 12] (by decide +kernel) (by decide +kernel)
set_option maxRecDepth 20000 in
theorem gX1_lead_X1_isExit : GoodIn wsX1_lead (va_wsS RX1 69 yX1_isExit wsX1_isExit) := goodIn_app (goodIn_of _ (by decide +kernel)) ggX1_lead_X1_isExit
set_option maxRecDepth 20000 in
theorem ggX1_lead_X1_isPlace : GoodIn wsX1_lead wsX1_isPlace := goodIn_r _ [9, 10, 11, 5, 12] (by decide +kernel) (by decide +kernel)
set_option maxRecDepth 20000 in
theorem gX1_lead_X1_isPlace : GoodIn wsX1_lead (va_wsS RX1 49 yX1_isPlace wsX1_isPlace) := goodIn_app (goodIn_of _ (by decide +kernel)) ggX1_lead_X1_isPlace
theorem dX1_lead_0 : decode cX1_lead 0 = .ok (.aload_n 0, 1) := by decide +kernel
theorem dX1_lead_1 : decode cX1_lead 1 = .ok (.iload_n 1, 1) := by decide +kernel
theorem dX1_lead_2 : decode cX1_lead 2 = .ok (.iload_n 2, 1) := by decide +kernel
theorem dX1_lead_3 : decode cX1_lead 3 = .ok (.invokestatic 69, 3) := by decide +kernel
theorem dX1_lead_6 : decode cX1_lead 6 = .ok (.ifCond .eq 19, 3) := by decide +kernel
theorem dX1_lead_9 : decode cX1_lead 9 = .ok (.iload_n 3, 1) := by decide +kernel
theorem dX1_lead_10 : decode cX1_lead 10 = .ok (.iconst (-1), 1) := by decide +kernel
theorem dX1_lead_11 : decode cX1_lead 11 = .ok (.if_icmp .eq 10, 3) := by decide +kernel
theorem dX1_lead_14 : decode cX1_lead 14 = .ok (.iload_n 3, 1) := by decide +kernel
theorem dX1_lead_15 : decode cX1_lead 15 = .ok (.invokestatic 49, 3) := by decide +kernel
theorem dX1_lead_18 : decode cX1_lead 18 = .ok (.ifCond .eq 7, 3) := by decide +kernel
theorem dX1_lead_21 : decode cX1_lead 21 = .ok (.iconst 0, 1) := by decide +kernel
theorem dX1_lead_22 : decode cX1_lead 22 = .ok (.goto 4, 3) := by decide +kernel
theorem dX1_lead_25 : decode cX1_lead 25 = .ok (.iconst 1, 1) := by decide +kernel
theorem dX1_lead_26 : decode cX1_lead 26 = .ok (.putfield 41, 3) := by decide +kernel
theorem dX1_lead_29 : decode cX1_lead 29 = .ok (.aload_n 0, 1) := by decide +kernel
theorem dX1_lead_30 : decode cX1_lead 30 = .ok (.getfield 41, 3) := by decide +kernel
theorem dX1_lead_33 : decode cX1_lead 33 = .ok (.ifCond .le 5, 3) := by decide +kernel
theorem dX1_lead_36 : decode cX1_lead 36 = .ok (.iconst 0, 1) := by decide +kernel
theorem dX1_lead_37 : decode cX1_lead 37 = .ok (.ireturn, 1) := by decide +kernel
theorem dX1_lead_38 : decode cX1_lead 38 = .ok (.aload_n 0, 1) := by decide +kernel
theorem dX1_lead_39 : decode cX1_lead 39 = .ok (.getfield 16, 3) := by decide +kernel
theorem dX1_lead_42 : decode cX1_lead 42 = .ok (.iconst 4, 1) := by decide +kernel
theorem dX1_lead_43 : decode cX1_lead 43 = .ok (.iload_n 1, 1) := by decide +kernel
theorem dX1_lead_44 : decode cX1_lead 44 = .ok (.imul, 1) := by decide +kernel
theorem dX1_lead_45 : decode cX1_lead 45 = .ok (.iload_n 2, 1) := by decide +kernel
theorem dX1_lead_46 : decode cX1_lead 46 = .ok (.iadd, 1) := by decide +kernel
theorem dX1_lead_47 : decode cX1_lead 47 = .ok (.iaload, 1) := by decide +kernel
theorem dX1_lead_48 : decode cX1_lead 48 = .ok (.istore 4, 2) := by decide +kernel
theorem dX1_lead_50 : decode cX1_lead 50 = .ok (.aload_n 0, 1) := by decide +kernel
theorem dX1_lead_51 : decode cX1_lead 51 = .ok (.getfield 16, 3) := by decide +kernel
theorem dX1_lead_54 : decode cX1_lead 54 = .ok (.iconst 4, 1) := by decide +kernel
theorem dX1_lead_55 : decode cX1_lead 55 = .ok (.iload_n 1, 1) := by decide +kernel
theorem dX1_lead_56 : decode cX1_lead 56 = .ok (.imul, 1) := by decide +kernel
theorem dX1_lead_57 : decode cX1_lead 57 = .ok (.iload_n 2, 1) := by decide +kernel
theorem dX1_lead_58 : decode cX1_lead 58 = .ok (.iadd, 1) := by decide +kernel
theorem dX1_lead_59 : decode cX1_lead 59 = .ok (.iload_n 3, 1) := by decide +kernel
theorem dX1_lead_60 : decode cX1_lead 60 = .ok (.iastore, 1) := by decide +kernel
theorem dX1_lead_61 : decode cX1_lead 61 = .ok (.iload 4, 2) := by decide +kernel
theorem dX1_lead_63 : decode cX1_lead 63 = .ok (.ireturn, 1) := by decide +kernel
set_option maxRecDepth 20000 in
theorem ggX1_name_X1_isPlace : GoodIn wsX1_name wsX1_isPlace := goodIn_r _ [7, 8, 9, 6, 10] (by decide +kernel) (by decide +kernel)
set_option maxRecDepth 20000 in
theorem gX1_name_X1_isPlace : GoodIn wsX1_name (va_wsS RX1 49 yX1_isPlace wsX1_isPlace) := goodIn_app (goodIn_of _ (by decide +kernel)) ggX1_name_X1_isPlace
set_option maxRecDepth 20000 in
theorem ggX1_name_X1_isText : GoodIn wsX1_name wsX1_isText := goodIn_r _ [13, 8, 9, 6, 10, 14, 15, 16] (by decide +kernel) (by decide +kernel)
set_option maxRecDepth 20000 in
theorem gX1_name_X1_isText : GoodIn wsX1_name (va_wsS RX1 73 yX1_isText wsX1_isText) := goodIn_app (goodIn_of _ (by decide +kernel)) ggX1_name_X1_isText
theorem dX1_name_0 : decode cX1_name 0 = .ok (.aload_n 0, 1) := by decide +kernel
theorem dX1_name_1 : decode cX1_name 1 = .ok (.iload_n 1, 1) := by decide +kernel
theorem dX1_name_2 : decode cX1_name 2 = .ok (.invokestatic 49, 3) := by decide +kernel
theorem dX1_name_5 : decode cX1_name 5 = .ok (.ifCond .ne 7, 3) := by decide +kernel
theorem dX1_name_8 : decode cX1_name 8 = .ok (.iconst 1, 1) := by decide +kernel
theorem dX1_name_9 : decode cX1_name 9 = .ok (.goto 16, 3) := by decide +kernel
theorem dX1_name_12 : decode cX1_name 12 = .ok (.iload_n 2, 1) := by decide +kernel
theorem dX1_name_13 : decode cX1_name 13 = .ok (.iload_n 3, 1) := by decide +kernel
theorem dX1_name_14 : decode cX1_name 14 = .ok (.invokestatic 73, 3) := by decide +kernel
theorem dX1_name_17 : decode cX1_name 17 = .ok (.ifCond .eq 7, 3) := by decide +kernel
theorem dX1_name_20 : decode cX1_name 20 = .ok (.iconst 0, 1) := by decide +kernel
theorem dX1_name_21 : decode cX1_name 21 = .ok (.goto 4, 3) := by decide +kernel
theorem dX1_name_24 : decode cX1_name 24 = .ok (.iconst 2, 1) := by decide +kernel
theorem dX1_name_25 : decode cX1_name 25 = .ok (.putfield 41, 3) := by decide +kernel
theorem dX1_name_28 : decode cX1_name 28 = .ok (.aload_n 0, 1) := by decide +kernel
theorem dX1_name_29 : decode cX1_name 29 = .ok (.getfield 41, 3) := by decide +kernel
theorem dX1_name_32 : decode cX1_name 32 = .ok (.ifCond .ne 17, 3) := by decide +kernel
theorem dX1_name_35 : decode cX1_name 35 = .ok (.aload_n 0, 1) := by decide +kernel
theorem dX1_name_36 : decode cX1_name 36 = .ok (.getfield 19, 3) := by decide +kernel
theorem dX1_name_39 : decode cX1_name 39 = .ok (.iload_n 1, 1) := by decide +kernel
theorem dX1_name_40 : decode cX1_name 40 = .ok (.iload_n 2, 1) := by decide +kernel
theorem dX1_name_41 : decode cX1_name 41 = .ok (.iastore, 1) := by decide +kernel
theorem dX1_name_42 : decode cX1_name 42 = .ok (.aload_n 0, 1) := by decide +kernel
theorem dX1_name_43 : decode cX1_name 43 = .ok (.getfield 22, 3) := by decide +kernel
theorem dX1_name_46 : decode cX1_name 46 = .ok (.iload_n 1, 1) := by decide +kernel
theorem dX1_name_47 : decode cX1_name 47 = .ok (.iload_n 3, 1) := by decide +kernel
theorem dX1_name_48 : decode cX1_name 48 = .ok (.iastore, 1) := by decide +kernel
theorem dX1_name_49 : decode cX1_name 49 = .ok (.return_, 1) := by decide +kernel
set_option maxRecDepth 20000 in
theorem ggX1_widthOfText_X1_glyph : GoodIn wsX1_widthOfText wsX1_glyph := goodIn_r _ [5, 6, 7, 4, 8] (by decide +kernel) (by decide +kernel)
set_option maxRecDepth 20000 in
theorem gX1_widthOfText_X1_glyph : GoodIn wsX1_widthOfText (va_wsS RX1 76 yX1_glyph wsX1_glyph) := goodIn_app (goodIn_of _ (by decide +kernel)) ggX1_widthOfText_X1_glyph
set_option maxRecDepth 20000 in
theorem ggX1_widthOfText_X1_widthOf : GoodIn wsX1_widthOfText wsX1_widthOf := goodIn_r _ [12, 13, 14, 15, 16, 17, 18, 19, 20, 21, 22, 23, 24, 25, 26, 27, 28] (by decide +kernel) (by decide +kernel)
set_option maxRecDepth 20000 in
theorem gX1_widthOfText_X1_widthOf : GoodIn wsX1_widthOfText (wsV RX1 66 RX1 yX1_widthOf wsX1_widthOf) := goodIn_app (goodIn_of _ (by decide +kernel)) ggX1_widthOfText_X1_widthOf
theorem dX1_widthOfText_0 : decode cX1_widthOfText 0 = .ok (.iconst 0, 1) := by decide +kernel
theorem dX1_widthOfText_1 : decode cX1_widthOfText 1 = .ok (.istore_n 3, 1) := by decide +kernel
theorem dX1_widthOfText_2 : decode cX1_widthOfText 2 = .ok (.iconst 0, 1) := by decide +kernel
theorem dX1_widthOfText_3 : decode cX1_widthOfText 3 = .ok (.istore 4, 2) := by decide +kernel
theorem dX1_widthOfText_5 : decode cX1_widthOfText 5 = .ok (.iload 4, 2) := by decide +kernel
theorem dX1_widthOfText_7 : decode cX1_widthOfText 7 = .ok (.iload_n 2, 1) := by decide +kernel
theorem dX1_widthOfText_8 : decode cX1_widthOfText 8 = .ok (.if_icmp .ge 60, 3) := by decide +kernel
theorem dX1_widthOfText_11 : decode cX1_widthOfText 11 = .ok (.iload_n 3, 1) := by decide +kernel
theorem dX1_widthOfText_12 : decode cX1_widthOfText 12 = .ok (.aload_n 0, 1) := by decide +kernel
theorem dX1_widthOfText_13 : decode cX1_widthOfText 13 = .ok (.iload_n 1, 1) := by decide +kernel
theorem dX1_widthOfText_14 : decode cX1_widthOfText 14 = .ok (.iload_n 2, 1) := by decide +kernel
theorem dX1_widthOfText_15 : decode cX1_widthOfText 15 = .ok (.iload 4, 2) := by decide +kernel
theorem dX1_widthOfText_17 : decode cX1_widthOfText 17 = .ok (.invokestatic 76, 3) := by decide +kernel
theorem dX1_widthOfText_20 : decode cX1_widthOfText 20 = .ok (.invokevirtual 66, 3) := by decide +kernel
theorem dX1_widthOfText_23 : decode cX1_widthOfText 23 = .ok (.iadd, 1) := by decide +kernel
theorem dX1_widthOfText_24 : decode cX1_widthOfText 24 = .ok (.istore_n 3, 1) := by decide +kernel
theorem dX1_widthOfText_25 : decode cX1_widthOfText 25 = .ok (.iload_n 3, 1) := by decide +kernel
theorem dX1_widthOfText_26 : decode cX1_widthOfText 26 = .ok (.iload 4, 2) := by decide +kernel
theorem dX1_widthOfText_28 : decode cX1_widthOfText 28 = .ok (.ifCond .le 31, 3) := by decide +kernel
theorem dX1_widthOfText_31 : decode cX1_widthOfText 31 = .ok (.aload_n 0, 1) := by decide +kernel
theorem dX1_widthOfText_32 : decode cX1_widthOfText 32 = .ok (.getfield 13, 3) := by decide +kernel
theorem dX1_widthOfText_35 : decode cX1_widthOfText 35 = .ok (.bipush 8, 2) := by decide +kernel
theorem dX1_widthOfText_37 : decode cX1_widthOfText 37 = .ok (.iload_n 1, 1) := by decide +kernel
theorem dX1_widthOfText_38 : decode cX1_widthOfText 38 = .ok (.iload_n 2, 1) := by decide +kernel
theorem dX1_widthOfText_39 : decode cX1_widthOfText 39 = .ok (.iload 4, 2) := by decide +kernel
theorem dX1_widthOfText_41 : decode cX1_widthOfText 41 = .ok (.iconst 1, 1) := by decide +kernel
theorem dX1_widthOfText_42 : decode cX1_widthOfText 42 = .ok (.isub, 1) := by decide +kernel
theorem dX1_widthOfText_43 : decode cX1_widthOfText 43 = .ok (.invokestatic 76, 3) := by decide +kernel
theorem dX1_widthOfText_46 : decode cX1_widthOfText 46 = .ok (.imul, 1) := by decide +kernel
theorem dX1_widthOfText_47 : decode cX1_widthOfText 47 = .ok (.iload_n 1, 1) := by decide +kernel
theorem dX1_widthOfText_48 : decode cX1_widthOfText 48 = .ok (.iload_n 2, 1) := by decide +kernel
theorem dX1_widthOfText_49 : decode cX1_widthOfText 49 = .ok (.iload 4, 2) := by decide +kernel
theorem dX1_widthOfText_51 : decode cX1_widthOfText 51 = .ok (.invokestatic 76, 3) := by decide +kernel
theorem dX1_widthOfText_54 : decode cX1_widthOfText 54 = .ok (.iadd, 1) := by decide +kernel
theorem dX1_widthOfText_55 : decode cX1_widthOfText 55 = .ok (.iaload, 1) := by decide +kernel
theorem dX1_widthOfText_56 : decode cX1_widthOfText 56 = .ok (.goto 4, 3) := by decide +kernel
theorem dX1_widthOfText_59 : decode cX1_widthOfText 59 = .ok (.iconst 0, 1) := by decide +kernel
theorem dX1_widthOfText_60 : decode cX1_widthOfText 60 = .ok (.iadd, 1) := by decide +kernel
theorem dX1_widthOfText_61 : decode cX1_widthOfText 61 = .ok (.istore_n 3, 1) := by decide +kernel
theorem dX1_widthOfText_62 : decode cX1_widthOfText 62 = .ok (.iinc 4 1, 3) := by decide +kernel
theorem dX1_widthOfText_65 : decode cX1_widthOfText 65 = .ok (.goto (-60), 3) := by decide +kernel
theorem dX1_widthOfText_68 : decode cX1_widthOfText 68 = .ok (.iload_n 3, 1) := by decide +kernel
theorem dX1_widthOfText_69 : decode cX1_widthOfText 69 = .ok (.ireturn, 1) := by decide +kernel
set_option maxRecDepth 20000 in
theorem ggX1_textWidth_X1_isText : GoodIn wsX1_textWidth wsX1_isText := goodIn_r _ [5, 6, 7, 4, 8, 9, 10, 11] (by decide +kernel) (by decide +kernel)
set_option maxRecDepth 20000 in
theorem gX1_textWidth_X1_isText : GoodIn wsX1_textWidth (va_wsS RX1 73 yX1_isText wsX1_isText) := goodIn_app (goodIn_of _ (by decide +kernel)) ggX1_textWidth_X1_isText
set_option maxRecDepth 20000 in
theorem ggX1_textWidth_X1_widthOfText : GoodIn wsX1_textWidth wsX1_widthOfText := goodIn_r _ [15, 16, 17, 18, 4, 19, 9, 10, 11, 20, 21, 22, 23, 24, 29, 30, 31, 32, 33, 34, 35, 36, 37, 38, 39, 40, 41, 42, 43] (by decide +kernel) (by decide +kernel)
set_option maxRecDepth 20000 in
theorem gX1_textWidth_X1_widthOfText : GoodIn wsX1_textWidth (wsV RX1 80 RX1 yX1_widthOfText wsX1_widthOfText) := goodIn_app (goodIn_of _ (by decide +kernel)) ggX1_textWidth_X1_widthOfText
set_option maxRecDepth 20000 in
theorem ggX1_textWidth_X1_fails : GoodIn wsX1_textWidth wsX1_fails := goodIn_r _ [28, 1, 29, 30, 31, 32, 33, 34, 35, 36, 37, 38, 39, 40, 41, 42, 43] (by decide +kernel) (by decide +kernel)
set_option maxRecDepth 20000 in
theorem gX1_textWidth_X1_fails : GoodIn wsX1_textWidth (wsV RX1 60 RX1 yX1_fails wsX1_fails) := goodIn_app (goodIn_of _ (by decide +kernel)) ggX1_textWidth_X1_fails
theorem dX1_textWidth_0 : decode cX1_textWidth 0 = .ok (.aload_n 0, 1) := by decide +kernel
theorem dX1_textWidth_1 : decode cX1_textWidth 1 = .ok (.iconst 0, 1) := by decide +kernel
theorem dX1_textWidth_2 : decode cX1_textWidth 2 = .ok (.putfield 41, 3) := by decide +kernel
theorem dX1_textWidth_5 : decode cX1_textWidth 5 = .ok (.iload_n 1, 1) := by decide +kernel
theorem dX1_textWidth_6 : decode cX1_textWidth 6 = .ok (.iload_n 2, 1) := by decide +kernel
theorem dX1_textWidth_7 : decode cX1_textWidth 7 = .ok (.invokestatic 73, 3) := by decide +kernel
theorem dX1_textWidth_10 : decode cX1_textWidth 10 = .ok (.ifCond .eq 12, 3) := by decide +kernel
theorem dX1_textWidth_13 : decode cX1_textWidth 13 = .ok (.aload_n 0, 1) := by decide +kernel
theorem dX1_textWidth_14 : decode cX1_textWidth 14 = .ok (.iload_n 1, 1) := by decide +kernel
theorem dX1_textWidth_15 : decode cX1_textWidth 15 = .ok (.iload_n 2, 1) := by decide +kernel
theorem dX1_textWidth_16 : decode cX1_textWidth 16 = .ok (.invokevirtual 80, 3) := by decide +kernel
theorem dX1_textWidth_19 : decode cX1_textWidth 19 = .ok (.goto 8, 3) := by decide +kernel
theorem dX1_textWidth_22 : decode cX1_textWidth 22 = .ok (.aload_n 0, 1) := by decide +kernel
theorem dX1_textWidth_23 : decode cX1_textWidth 23 = .ok (.iconst 1, 1) := by decide +kernel
theorem dX1_textWidth_24 : decode cX1_textWidth 24 = .ok (.invokevirtual 60, 3) := by decide +kernel
theorem dX1_textWidth_27 : decode cX1_textWidth 27 = .ok (.ireturn, 1) := by decide +kernel
set_option maxRecDepth 20000 in
theorem ggX1_plate_X1_widthOfText : GoodIn wsX1_plate wsX1_widthOfText := goodIn_r _ [5, 6, 7, 8, 4, 9, 10, 11, 12, 13, 14, 15, 16, 17, 18, 19, 20, 21, 22, 23, 24, 25, 26, 27, 28, 29, 30, 31, 32] (by decide +kernel) (by decide +kernel)
set_option maxRecDepth 20000 in
theorem gX1_plate_X1_widthOfText : GoodIn wsX1_plate (wsV RX1 80 RX1 yX1_widthOfText wsX1_widthOfText) := goodIn_app (goodIn_of _ (by decide +kernel)) ggX1_plate_X1_widthOfText
theorem dX1_plate_0 : decode cX1_plate 0 = .ok (.aload_n 0, 1) := by decide +kernel
theorem dX1_plate_1 : decode cX1_plate 1 = .ok (.iload_n 1, 1) := by decide +kernel
theorem dX1_plate_2 : decode cX1_plate 2 = .ok (.iload_n 2, 1) := by decide +kernel
theorem dX1_plate_3 : decode cX1_plate 3 = .ok (.invokevirtual 80, 3) := by decide +kernel
theorem dX1_plate_6 : decode cX1_plate 6 = .ok (.istore_n 3, 1) := by decide +kernel
theorem dX1_plate_7 : decode cX1_plate 7 = .ok (.iload_n 3, 1) := by decide +kernel
theorem dX1_plate_8 : decode cX1_plate 8 = .ok (.bipush 10, 2) := by decide +kernel
theorem dX1_plate_10 : decode cX1_plate 10 = .ok (.if_icmp .gt 7, 3) := by decide +kernel
theorem dX1_plate_13 : decode cX1_plate 13 = .ok (.iconst 4, 1) := by decide +kernel
theorem dX1_plate_14 : decode cX1_plate 14 = .ok (.goto 26, 3) := by decide +kernel
theorem dX1_plate_17 : decode cX1_plate 17 = .ok (.iload_n 3, 1) := by decide +kernel
theorem dX1_plate_18 : decode cX1_plate 18 = .ok (.bipush 20, 2) := by decide +kernel
theorem dX1_plate_20 : decode cX1_plate 20 = .ok (.if_icmp .gt 8, 3) := by decide +kernel
theorem dX1_plate_23 : decode cX1_plate 23 = .ok (.bipush 7, 2) := by decide +kernel
theorem dX1_plate_25 : decode cX1_plate 25 = .ok (.goto 15, 3) := by decide +kernel
theorem dX1_plate_28 : decode cX1_plate 28 = .ok (.iload_n 3, 1) := by decide +kernel
theorem dX1_plate_29 : decode cX1_plate 29 = .ok (.bipush 30, 2) := by decide +kernel
theorem dX1_plate_31 : decode cX1_plate 31 = .ok (.if_icmp .gt 8, 3) := by decide +kernel
theorem dX1_plate_34 : decode cX1_plate 34 = .ok (.bipush 10, 2) := by decide +kernel
theorem dX1_plate_36 : decode cX1_plate 36 = .ok (.goto 4, 3) := by decide +kernel
theorem dX1_plate_39 : decode cX1_plate 39 = .ok (.iconst (-1), 1) := by decide +kernel
theorem dX1_plate_40 : decode cX1_plate 40 = .ok (.ireturn, 1) := by decide +kernel
set_option maxRecDepth 20000 in
theorem ggX1_cuts_X1_glyph : GoodIn wsX1_cuts wsX1_glyph := goodIn_r _ [9, 10, 11, 8, 12] (by decide +kernel) (by decide +kernel)
set_option maxRecDepth 20000 in
theorem gX1_cuts_X1_glyph : GoodIn wsX1_cuts (va_wsS RX1 76 yX1_glyph wsX1_glyph) := goodIn_app (goodIn_of _ (by decide +kernel)) ggX1_cuts_X1_glyph
set_option maxRecDepth 20000 in
theorem ggX1_cuts_X1_plate : GoodIn wsX1_cuts wsX1_plate := goodIn_r _ [16, 17, 18, 19, 8, 20, 21, 6, 7, 9, 10, 11, 12, 22, 23, 24, 25, 3, 26, 27, 28, 29, 30, 31, 32, 33, 34, 35, 36, 37, 38, 39, 40] (by decide +kernel) (by decide +kernel)
set_option maxRecDepth 20000 in
theorem gX1_cuts_X1_plate : GoodIn wsX1_cuts (wsV RX1 88 RX1 yX1_plate wsX1_plate) := goodIn_app (goodIn_of _ (by decide +kernel)) ggX1_cuts_X1_plate
theorem dX1_cuts_0 : decode cX1_cuts 0 = .ok (.iconst 0, 1) := by decide +kernel
theorem dX1_cuts_1 : decode cX1_cuts 1 = .ok (.istore_n 2, 1) := by decide +kernel
theorem dX1_cuts_2 : decode cX1_cuts 2 = .ok (.iload_n 2, 1) := by decide +kernel
theorem dX1_cuts_3 : decode cX1_cuts 3 = .ok (.aload_n 0, 1) := by decide +kernel
theorem dX1_cuts_4 : decode cX1_cuts 4 = .ok (.getfield 28, 3) := by decide +kernel
theorem dX1_cuts_7 : decode cX1_cuts 7 = .ok (.iload_n 1, 1) := by decide +kernel
theorem dX1_cuts_8 : decode cX1_cuts 8 = .ok (.iaload, 1) := by decide +kernel
theorem dX1_cuts_9 : decode cX1_cuts 9 = .ok (.if_icmp .ge 40, 3) := by decide +kernel
theorem dX1_cuts_12 : decode cX1_cuts 12 = .ok (.aload_n 0, 1) := by decide +kernel
theorem dX1_cuts_13 : decode cX1_cuts 13 = .ok (.getfield 34, 3) := by decide +kernel
theorem dX1_cuts_16 : decode cX1_cuts 16 = .ok (.iconst 5, 1) := by decide +kernel
theorem dX1_cuts_17 : decode cX1_cuts 17 = .ok (.iload_n 1, 1) := by decide +kernel
theorem dX1_cuts_18 : decode cX1_cuts 18 = .ok (.imul, 1) := by decide +kernel
theorem dX1_cuts_19 : decode cX1_cuts 19 = .ok (.iload_n 2, 1) := by decide +kernel
theorem dX1_cuts_20 : decode cX1_cuts 20 = .ok (.iadd, 1) := by decide +kernel
theorem dX1_cuts_21 : decode cX1_cuts 21 = .ok (.aload_n 0, 1) := by decide +kernel
theorem dX1_cuts_22 : decode cX1_cuts 22 = .ok (.getfield 7, 3) := by decide +kernel
theorem dX1_cuts_25 : decode cX1_cuts 25 = .ok (.aload_n 0, 1) := by decide +kernel
theorem dX1_cuts_26 : decode cX1_cuts 26 = .ok (.getfield 25, 3) := by decide +kernel
theorem dX1_cuts_29 : decode cX1_cuts 29 = .ok (.iload_n 1, 1) := by decide +kernel
theorem dX1_cuts_30 : decode cX1_cuts 30 = .ok (.iaload, 1) := by decide +kernel
theorem dX1_cuts_31 : decode cX1_cuts 31 = .ok (.aload_n 0, 1) := by decide +kernel
theorem dX1_cuts_32 : decode cX1_cuts 32 = .ok (.getfield 28, 3) := by decide +kernel
theorem dX1_cuts_35 : decode cX1_cuts 35 = .ok (.iload_n 1, 1) := by decide +kernel
theorem dX1_cuts_36 : decode cX1_cuts 36 = .ok (.iaload, 1) := by decide +kernel
theorem dX1_cuts_37 : decode cX1_cuts 37 = .ok (.iload_n 2, 1) := by decide +kernel
theorem dX1_cuts_38 : decode cX1_cuts 38 = .ok (.invokestatic 76, 3) := by decide +kernel
theorem dX1_cuts_41 : decode cX1_cuts 41 = .ok (.iaload, 1) := by decide +kernel
theorem dX1_cuts_42 : decode cX1_cuts 42 = .ok (.iastore, 1) := by decide +kernel
theorem dX1_cuts_43 : decode cX1_cuts 43 = .ok (.iinc 2 1, 3) := by decide +kernel
theorem dX1_cuts_46 : decode cX1_cuts 46 = .ok (.goto (-44), 3) := by decide +kernel
theorem dX1_cuts_49 : decode cX1_cuts 49 = .ok (.aload_n 0, 1) := by decide +kernel
theorem dX1_cuts_50 : decode cX1_cuts 50 = .ok (.dup, 1) := by decide +kernel
theorem dX1_cuts_51 : decode cX1_cuts 51 = .ok (.getfield 84, 3) := by decide +kernel
theorem dX1_cuts_54 : decode cX1_cuts 54 = .ok (.aload_n 0, 1) := by decide +kernel
theorem dX1_cuts_55 : decode cX1_cuts 55 = .ok (.aload_n 0, 1) := by decide +kernel
theorem dX1_cuts_56 : decode cX1_cuts 56 = .ok (.getfield 25, 3) := by decide +kernel
theorem dX1_cuts_59 : decode cX1_cuts 59 = .ok (.iload_n 1, 1) := by decide +kernel
theorem dX1_cuts_60 : decode cX1_cuts 60 = .ok (.iaload, 1) := by decide +kernel
theorem dX1_cuts_61 : decode cX1_cuts 61 = .ok (.aload_n 0, 1) := by decide +kernel
theorem dX1_cuts_62 : decode cX1_cuts 62 = .ok (.getfield 28, 3) := by decide +kernel
theorem dX1_cuts_65 : decode cX1_cuts 65 = .ok (.iload_n 1, 1) := by decide +kernel
theorem dX1_cuts_66 : decode cX1_cuts 66 = .ok (.iaload, 1) := by decide +kernel
theorem dX1_cuts_67 : decode cX1_cuts 67 = .ok (.invokevirtual 88, 3) := by decide +kernel
theorem dX1_cuts_70 : decode cX1_cuts 70 = .ok (.i2l, 1) := by decide +kernel
theorem dX1_cuts_71 : decode cX1_cuts 71 = .ok (.ladd, 1) := by decide +kernel
theorem dX1_cuts_72 : decode cX1_cuts 72 = .ok (.putfield 84, 3) := by decide +kernel
theorem dX1_cuts_75 : decode cX1_cuts 75 = .ok (.return_, 1) := by decide +kernel
set_option maxRecDepth 20000 in
theorem ggX1_cut_X1_isExit : GoodIn wsX1_cut wsX1_isExit := goodIn_r _ [8, 9, 10, 7, 11, 12, 13, 14] (by decide +kernel) (by decide +kernel)
set_option maxRecDepth 20000 in
theorem gX1_cut_X1_isExit : GoodIn wsX1_cut (va_wsS RX1 69 yX1_isExit wsX1_isExit) := goodIn_app (goodIn_of _ (by decide +kernel)) ggX1_cut_X1_isExit
set_option maxRecDepth 20000 in
theorem ggX1_cut_X1_fails : GoodIn wsX1_cut wsX1_fails := goodIn_r _ [18, 1, 48, 49, 50, 51, 52, 53, 54, 55, 56, 57, 58, 59, 60, 61, 62] (by decide +kernel) (by decide +kernel)
set_option maxRecDepth 20000 in
theorem gX1_cut_X1_fails : GoodIn wsX1_cut (wsV RX1 60 RX1 yX1_fails wsX1_fails) := goodIn_app (goodIn_of _ (by decide +kernel)) ggX1_cut_X1_fails
set_option maxRecDepth 20000 in
theorem ggX1_cut_X1_isText : GoodIn wsX1_cut wsX1_isText := goodIn_r _ [21, 12, 13, 7, 14, 22, 23, 24] (by decide +kernel) (by decide +kernel)
set_option maxRecDepth 20000 in
theorem gX1_cut_X1_isText : GoodIn wsX1_cut (va_wsS RX1 73 yX1_isText wsX1_isText) := goodIn_app (goodIn_of _ (by decide +kernel)) ggX1_cut_X1_isText
set_option maxRecDepth 20000 in
theorem ggX1_cut_X1_in : GoodIn wsX1_cut wsX1_in := goodIn_r _ [14] (by decide +kernel) (by decide +kernel)
set_option maxRecDepth 20000 in
theorem gX1_cut_X1_in : GoodIn wsX1_cut (va_wsS RX1 45 yX1_in wsX1_in) := goodIn_app (goodIn_of _ (by decide +kernel)) ggX1_cut_X1_in
set_option maxRecDepth 20000 in
theorem ggX1_cut_X1_plate : GoodIn wsX1_cut wsX1_plate := goodIn_r _ [28, 29, 30, 31, 7, 32, 33, 34, 35, 36, 22, 23, 24, 37, 38, 39, 40, 41, 48, 49, 50, 51, 52, 53, 54, 55, 56, 57, 58, 59, 60, 61, 62] (by decide +kernel) (by decide +kernel)
set_option maxRecDepth 20000 in
theorem gX1_cut_X1_plate : GoodIn wsX1_cut (wsV RX1 88 RX1 yX1_plate wsX1_plate) := goodIn_app (goodIn_of _ (by decide +kernel)) ggX1_cut_X1_plate
set_option maxRecDepth 20000 in
theorem ggX1_cut_X1_cuts : GoodIn wsX1_cut wsX1_cuts := goodIn_r _ [45, 3, 46, 41, 2, 47, 34, 35, 7, 36, 22, 23, 24, 25, 26, 27, 28, 29, 30, 31, 32, 33, 37, 38, 39, 40, 48, 49, 50, 51, 52, 53, 54, 55, 56, 57, 58, 59, 60, 61, 62] (by decide +kernel) (by decide +kernel)
set_option maxRecDepth 20000 in
theorem gX1_cut_X1_cuts : GoodIn wsX1_cut (wsV RX1 91 RX1 yX1_cuts wsX1_cuts) := goodIn_app (goodIn_of _ (by decide +kernel)) ggX1_cut_X1_cuts
theorem dX1_cut_0 : decode cX1_cut 0 = .ok (.iload_n 1, 1) := by decide +kernel
theorem dX1_cut_1 : decode cX1_cut 1 = .ok (.iload_n 2, 1) := by decide +kernel
theorem dX1_cut_2 : decode cX1_cut 2 = .ok (.invokestatic 69, 3) := by decide +kernel
theorem dX1_cut_5 : decode cX1_cut 5 = .ok (.ifCond .ne 9, 3) := by decide +kernel
theorem dX1_cut_8 : decode cX1_cut 8 = .ok (.aload_n 0, 1) := by decide +kernel
theorem dX1_cut_9 : decode cX1_cut 9 = .ok (.iconst 1, 1) := by decide +kernel
theorem dX1_cut_10 : decode cX1_cut 10 = .ok (.invokevirtual 60, 3) := by decide +kernel
theorem dX1_cut_13 : decode cX1_cut 13 = .ok (.ireturn, 1) := by decide +kernel
theorem dX1_cut_14 : decode cX1_cut 14 = .ok (.iload_n 3, 1) := by decide +kernel
theorem dX1_cut_15 : decode cX1_cut 15 = .ok (.iload 4, 2) := by decide +kernel
theorem dX1_cut_17 : decode cX1_cut 17 = .ok (.invokestatic 73, 3) := by decide +kernel
theorem dX1_cut_20 : decode cX1_cut 20 = .ok (.ifCond .eq 14, 3) := by decide +kernel
theorem dX1_cut_23 : decode cX1_cut 23 = .ok (.iload 5, 2) := by decide +kernel
theorem dX1_cut_25 : decode cX1_cut 25 = .ok (.iconst 0, 1) := by decide +kernel
theorem dX1_cut_26 : decode cX1_cut 26 = .ok (.bipush 9, 2) := by decide +kernel
theorem dX1_cut_28 : decode cX1_cut 28 = .ok (.invokestatic 45, 3) := by decide +kernel
theorem dX1_cut_31 : decode cX1_cut 31 = .ok (.ifCond .ne 9, 3) := by decide +kernel
theorem dX1_cut_34 : decode cX1_cut 34 = .ok (.aload_n 0, 1) := by decide +kernel
theorem dX1_cut_35 : decode cX1_cut 35 = .ok (.iconst 2, 1) := by decide +kernel
theorem dX1_cut_36 : decode cX1_cut 36 = .ok (.invokevirtual 60, 3) := by decide +kernel
theorem dX1_cut_39 : decode cX1_cut 39 = .ok (.ireturn, 1) := by decide +kernel
theorem dX1_cut_40 : decode cX1_cut 40 = .ok (.aload_n 0, 1) := by decide +kernel
theorem dX1_cut_41 : decode cX1_cut 41 = .ok (.iload_n 3, 1) := by decide +kernel
theorem dX1_cut_42 : decode cX1_cut 42 = .ok (.iload 4, 2) := by decide +kernel
theorem dX1_cut_44 : decode cX1_cut 44 = .ok (.invokevirtual 88, 3) := by decide +kernel
theorem dX1_cut_47 : decode cX1_cut 47 = .ok (.istore 6, 2) := by decide +kernel
theorem dX1_cut_49 : decode cX1_cut 49 = .ok (.aload_n 0, 1) := by decide +kernel
theorem dX1_cut_50 : decode cX1_cut 50 = .ok (.iload 6, 2) := by decide +kernel
theorem dX1_cut_52 : decode cX1_cut 52 = .ok (.iconst (-1), 1) := by decide +kernel
theorem dX1_cut_53 : decode cX1_cut 53 = .ok (.if_icmp .ne 7, 3) := by decide +kernel
theorem dX1_cut_56 : decode cX1_cut 56 = .ok (.iconst 3, 1) := by decide +kernel
theorem dX1_cut_57 : decode cX1_cut 57 = .ok (.goto 4, 3) := by decide +kernel
theorem dX1_cut_60 : decode cX1_cut 60 = .ok (.iconst 0, 1) := by decide +kernel
theorem dX1_cut_61 : decode cX1_cut 61 = .ok (.putfield 41, 3) := by decide +kernel
theorem dX1_cut_64 : decode cX1_cut 64 = .ok (.aload_n 0, 1) := by decide +kernel
theorem dX1_cut_65 : decode cX1_cut 65 = .ok (.getfield 41, 3) := by decide +kernel
theorem dX1_cut_68 : decode cX1_cut 68 = .ok (.ifCond .le 5, 3) := by decide +kernel
theorem dX1_cut_71 : decode cX1_cut 71 = .ok (.iconst 0, 1) := by decide +kernel
theorem dX1_cut_72 : decode cX1_cut 72 = .ok (.ireturn, 1) := by decide +kernel
theorem dX1_cut_73 : decode cX1_cut 73 = .ok (.iconst 4, 1) := by decide +kernel
theorem dX1_cut_74 : decode cX1_cut 74 = .ok (.iload_n 1, 1) := by decide +kernel
theorem dX1_cut_75 : decode cX1_cut 75 = .ok (.imul, 1) := by decide +kernel
theorem dX1_cut_76 : decode cX1_cut 76 = .ok (.iload_n 2, 1) := by decide +kernel
theorem dX1_cut_77 : decode cX1_cut 77 = .ok (.iadd, 1) := by decide +kernel
theorem dX1_cut_78 : decode cX1_cut 78 = .ok (.istore 7, 2) := by decide +kernel
theorem dX1_cut_80 : decode cX1_cut 80 = .ok (.aload_n 0, 1) := by decide +kernel
theorem dX1_cut_81 : decode cX1_cut 81 = .ok (.getfield 25, 3) := by decide +kernel
theorem dX1_cut_84 : decode cX1_cut 84 = .ok (.iload 7, 2) := by decide +kernel
theorem dX1_cut_86 : decode cX1_cut 86 = .ok (.iload_n 3, 1) := by decide +kernel
theorem dX1_cut_87 : decode cX1_cut 87 = .ok (.iastore, 1) := by decide +kernel
theorem dX1_cut_88 : decode cX1_cut 88 = .ok (.aload_n 0, 1) := by decide +kernel
theorem dX1_cut_89 : decode cX1_cut 89 = .ok (.getfield 28, 3) := by decide +kernel
theorem dX1_cut_92 : decode cX1_cut 92 = .ok (.iload 7, 2) := by decide +kernel
theorem dX1_cut_94 : decode cX1_cut 94 = .ok (.iload 4, 2) := by decide +kernel
theorem dX1_cut_96 : decode cX1_cut 96 = .ok (.iastore, 1) := by decide +kernel
theorem dX1_cut_97 : decode cX1_cut 97 = .ok (.aload_n 0, 1) := by decide +kernel
theorem dX1_cut_98 : decode cX1_cut 98 = .ok (.getfield 31, 3) := by decide +kernel
theorem dX1_cut_101 : decode cX1_cut 101 = .ok (.iload 7, 2) := by decide +kernel
theorem dX1_cut_103 : decode cX1_cut 103 = .ok (.iload 5, 2) := by decide +kernel
theorem dX1_cut_105 : decode cX1_cut 105 = .ok (.iastore, 1) := by decide +kernel
theorem dX1_cut_106 : decode cX1_cut 106 = .ok (.aload_n 0, 1) := by decide +kernel
theorem dX1_cut_107 : decode cX1_cut 107 = .ok (.iload 7, 2) := by decide +kernel
theorem dX1_cut_109 : decode cX1_cut 109 = .ok (.invokevirtual 91, 3) := by decide +kernel
theorem dX1_cut_112 : decode cX1_cut 112 = .ok (.iload 6, 2) := by decide +kernel
theorem dX1_cut_114 : decode cX1_cut 114 = .ok (.ireturn, 1) := by decide +kernel
set_option maxRecDepth 20000 in
theorem ggX1_remove_X1_isExit : GoodIn wsX1_remove wsX1_isExit := goodIn_r _ [6, 7, 8, 5, 9, 10, 11, 12] (by decide +kernel) (by decide +kernel)
set_option maxRecDepth 20000 in
theorem gX1_remove_X1_isExit : GoodIn wsX1_remove (va_wsS RX1 69 yX1_isExit wsX1_isExit) := goodIn_app (goodIn_of _ (by decide +kernel)) ggX1_remove_X1_isExit
theorem dX1_remove_0 : decode cX1_remove 0 = .ok (.aload_n 0, 1) := by decide +kernel
theorem dX1_remove_1 : decode cX1_remove 1 = .ok (.iload_n 1, 1) := by decide +kernel
theorem dX1_remove_2 : decode cX1_remove 2 = .ok (.iload_n 2, 1) := by decide +kernel
theorem dX1_remove_3 : decode cX1_remove 3 = .ok (.invokestatic 69, 3) := by decide +kernel
theorem dX1_remove_6 : decode cX1_remove 6 = .ok (.ifCond .eq 7, 3) := by decide +kernel
theorem dX1_remove_9 : decode cX1_remove 9 = .ok (.iconst 0, 1) := by decide +kernel
theorem dX1_remove_10 : decode cX1_remove 10 = .ok (.goto 4, 3) := by decide +kernel
theorem dX1_remove_13 : decode cX1_remove 13 = .ok (.iconst 1, 1) := by decide +kernel
theorem dX1_remove_14 : decode cX1_remove 14 = .ok (.putfield 41, 3) := by decide +kernel
theorem dX1_remove_17 : decode cX1_remove 17 = .ok (.aload_n 0, 1) := by decide +kernel
theorem dX1_remove_18 : decode cX1_remove 18 = .ok (.getfield 41, 3) := by decide +kernel
theorem dX1_remove_21 : decode cX1_remove 21 = .ok (.ifCond .le 5, 3) := by decide +kernel
theorem dX1_remove_24 : decode cX1_remove 24 = .ok (.iconst 0, 1) := by decide +kernel
theorem dX1_remove_25 : decode cX1_remove 25 = .ok (.ireturn, 1) := by decide +kernel
theorem dX1_remove_26 : decode cX1_remove 26 = .ok (.aload_n 0, 1) := by decide +kernel
theorem dX1_remove_27 : decode cX1_remove 27 = .ok (.getfield 28, 3) := by decide +kernel
theorem dX1_remove_30 : decode cX1_remove 30 = .ok (.iconst 4, 1) := by decide +kernel
theorem dX1_remove_31 : decode cX1_remove 31 = .ok (.iload_n 1, 1) := by decide +kernel
theorem dX1_remove_32 : decode cX1_remove 32 = .ok (.imul, 1) := by decide +kernel
theorem dX1_remove_33 : decode cX1_remove 33 = .ok (.iload_n 2, 1) := by decide +kernel
theorem dX1_remove_34 : decode cX1_remove 34 = .ok (.iadd, 1) := by decide +kernel
theorem dX1_remove_35 : decode cX1_remove 35 = .ok (.iaload, 1) := by decide +kernel
theorem dX1_remove_36 : decode cX1_remove 36 = .ok (.ifCond .le 7, 3) := by decide +kernel
theorem dX1_remove_39 : decode cX1_remove 39 = .ok (.iconst 1, 1) := by decide +kernel
theorem dX1_remove_40 : decode cX1_remove 40 = .ok (.goto 4, 3) := by decide +kernel
theorem dX1_remove_43 : decode cX1_remove 43 = .ok (.iconst 0, 1) := by decide +kernel
theorem dX1_remove_44 : decode cX1_remove 44 = .ok (.istore_n 3, 1) := by decide +kernel
theorem dX1_remove_45 : decode cX1_remove 45 = .ok (.aload_n 0, 1) := by decide +kernel
theorem dX1_remove_46 : decode cX1_remove 46 = .ok (.getfield 28, 3) := by decide +kernel
theorem dX1_remove_49 : decode cX1_remove 49 = .ok (.iconst 4, 1) := by decide +kernel
theorem dX1_remove_50 : decode cX1_remove 50 = .ok (.iload_n 1, 1) := by decide +kernel
theorem dX1_remove_51 : decode cX1_remove 51 = .ok (.imul, 1) := by decide +kernel
theorem dX1_remove_52 : decode cX1_remove 52 = .ok (.iload_n 2, 1) := by decide +kernel
theorem dX1_remove_53 : decode cX1_remove 53 = .ok (.iadd, 1) := by decide +kernel
theorem dX1_remove_54 : decode cX1_remove 54 = .ok (.iconst 0, 1) := by decide +kernel
theorem dX1_remove_55 : decode cX1_remove 55 = .ok (.iastore, 1) := by decide +kernel
theorem dX1_remove_56 : decode cX1_remove 56 = .ok (.iload_n 3, 1) := by decide +kernel
theorem dX1_remove_57 : decode cX1_remove 57 = .ok (.ireturn, 1) := by decide +kernel
set_option maxRecDepth 20000 in
theorem ggX1_old_X1_glyph : GoodIn wsX1_old wsX1_glyph := goodIn_r _ [8, 9, 10, 7, 11] (by decide +kernel) (by decide +kernel)
set_option maxRecDepth 20000 in
theorem gX1_old_X1_glyph : GoodIn wsX1_old (va_wsS RX1 76 yX1_glyph wsX1_glyph) := goodIn_app (goodIn_of _ (by decide +kernel)) ggX1_old_X1_glyph
theorem dX1_old_0 : decode cX1_old 0 = .ok (.iconst 0, 1) := by decide +kernel
theorem dX1_old_1 : decode cX1_old 1 = .ok (.istore_n 2, 1) := by decide +kernel
theorem dX1_old_2 : decode cX1_old 2 = .ok (.iconst 0, 1) := by decide +kernel
theorem dX1_old_3 : decode cX1_old 3 = .ok (.istore_n 3, 1) := by decide +kernel
theorem dX1_old_4 : decode cX1_old 4 = .ok (.iload_n 3, 1) := by decide +kernel
theorem dX1_old_5 : decode cX1_old 5 = .ok (.aload_n 0, 1) := by decide +kernel
theorem dX1_old_6 : decode cX1_old 6 = .ok (.getfield 28, 3) := by decide +kernel
theorem dX1_old_9 : decode cX1_old 9 = .ok (.iload_n 1, 1) := by decide +kernel
theorem dX1_old_10 : decode cX1_old 10 = .ok (.iaload, 1) := by decide +kernel
theorem dX1_old_11 : decode cX1_old 11 = .ok (.if_icmp .ge 53, 3) := by decide +kernel
theorem dX1_old_14 : decode cX1_old 14 = .ok (.iload_n 2, 1) := by decide +kernel
theorem dX1_old_15 : decode cX1_old 15 = .ok (.ifCond .ne 37, 3) := by decide +kernel
theorem dX1_old_18 : decode cX1_old 18 = .ok (.aload_n 0, 1) := by decide +kernel
theorem dX1_old_19 : decode cX1_old 19 = .ok (.getfield 34, 3) := by decide +kernel
theorem dX1_old_22 : decode cX1_old 22 = .ok (.iconst 5, 1) := by decide +kernel
theorem dX1_old_23 : decode cX1_old 23 = .ok (.iload_n 1, 1) := by decide +kernel
theorem dX1_old_24 : decode cX1_old 24 = .ok (.imul, 1) := by decide +kernel
theorem dX1_old_25 : decode cX1_old 25 = .ok (.iload_n 3, 1) := by decide +kernel
theorem dX1_old_26 : decode cX1_old 26 = .ok (.iadd, 1) := by decide +kernel
theorem dX1_old_27 : decode cX1_old 27 = .ok (.iaload, 1) := by decide +kernel
theorem dX1_old_28 : decode cX1_old 28 = .ok (.aload_n 0, 1) := by decide +kernel
theorem dX1_old_29 : decode cX1_old 29 = .ok (.getfield 7, 3) := by decide +kernel
theorem dX1_old_32 : decode cX1_old 32 = .ok (.aload_n 0, 1) := by decide +kernel
theorem dX1_old_33 : decode cX1_old 33 = .ok (.getfield 25, 3) := by decide +kernel
theorem dX1_old_36 : decode cX1_old 36 = .ok (.iload_n 1, 1) := by decide +kernel
theorem dX1_old_37 : decode cX1_old 37 = .ok (.iaload, 1) := by decide +kernel
theorem dX1_old_38 : decode cX1_old 38 = .ok (.aload_n 0, 1) := by decide +kernel
theorem dX1_old_39 : decode cX1_old 39 = .ok (.getfield 28, 3) := by decide +kernel
theorem dX1_old_42 : decode cX1_old 42 = .ok (.iload_n 1, 1) := by decide +kernel
theorem dX1_old_43 : decode cX1_old 43 = .ok (.iaload, 1) := by decide +kernel
theorem dX1_old_44 : decode cX1_old 44 = .ok (.iload_n 3, 1) := by decide +kernel
theorem dX1_old_45 : decode cX1_old 45 = .ok (.invokestatic 76, 3) := by decide +kernel
theorem dX1_old_48 : decode cX1_old 48 = .ok (.iaload, 1) := by decide +kernel
theorem dX1_old_49 : decode cX1_old 49 = .ok (.if_icmp .eq 7, 3) := by decide +kernel
theorem dX1_old_52 : decode cX1_old 52 = .ok (.iconst 1, 1) := by decide +kernel
theorem dX1_old_53 : decode cX1_old 53 = .ok (.goto 4, 3) := by decide +kernel
theorem dX1_old_56 : decode cX1_old 56 = .ok (.iconst 0, 1) := by decide +kernel
theorem dX1_old_57 : decode cX1_old 57 = .ok (.istore_n 2, 1) := by decide +kernel
theorem dX1_old_58 : decode cX1_old 58 = .ok (.iinc 3 1, 3) := by decide +kernel
theorem dX1_old_61 : decode cX1_old 61 = .ok (.goto (-57), 3) := by decide +kernel
theorem dX1_old_64 : decode cX1_old 64 = .ok (.iload_n 2, 1) := by decide +kernel
theorem dX1_old_65 : decode cX1_old 65 = .ok (.ireturn, 1) := by decide +kernel
set_option maxRecDepth 20000 in
theorem ggX1_isOld_X1_isExit : GoodIn wsX1_isOld wsX1_isExit := goodIn_r _ [5, 6, 7, 4, 8, 9, 10, 11] (by decide +kernel) (by decide +kernel)
set_option maxRecDepth 20000 in
theorem gX1_isOld_X1_isExit : GoodIn wsX1_isOld (va_wsS RX1 69 yX1_isExit wsX1_isExit) := goodIn_app (goodIn_of _ (by decide +kernel)) ggX1_isOld_X1_isExit
set_option maxRecDepth 20000 in
theorem ggX1_isOld_X1_old : GoodIn wsX1_isOld wsX1_old := goodIn_r _ [15, 16, 17, 18, 19, 20, 21, 4, 22, 23, 24, 25, 26, 27, 28, 29, 30, 31, 32, 33, 34, 35, 36, 37, 38, 39, 40] (by decide +kernel) (by decide +kernel)
set_option maxRecDepth 20000 in
theorem gX1_isOld_X1_old : GoodIn wsX1_isOld (wsV RX1 94 RX1 yX1_old wsX1_old) := goodIn_app (goodIn_of _ (by decide +kernel)) ggX1_isOld_X1_old
theorem dX1_isOld_0 : decode cX1_isOld 0 = .ok (.aload_n 0, 1) := by decide +kernel
theorem dX1_isOld_1 : decode cX1_isOld 1 = .ok (.iload_n 1, 1) := by decide +kernel
theorem dX1_isOld_2 : decode cX1_isOld 2 = .ok (.iload_n 2, 1) := by decide +kernel
theorem dX1_isOld_3 : decode cX1_isOld 3 = .ok (.invokestatic 69, 3) := by decide +kernel
theorem dX1_isOld_6 : decode cX1_isOld 6 = .ok (.ifCond .eq 7, 3) := by decide +kernel
theorem dX1_isOld_9 : decode cX1_isOld 9 = .ok (.iconst 0, 1) := by decide +kernel
theorem dX1_isOld_10 : decode cX1_isOld 10 = .ok (.goto 4, 3) := by decide +kernel
theorem dX1_isOld_13 : decode cX1_isOld 13 = .ok (.iconst 1, 1) := by decide +kernel
theorem dX1_isOld_14 : decode cX1_isOld 14 = .ok (.putfield 41, 3) := by decide +kernel
theorem dX1_isOld_17 : decode cX1_isOld 17 = .ok (.aload_n 0, 1) := by decide +kernel
theorem dX1_isOld_18 : decode cX1_isOld 18 = .ok (.getfield 41, 3) := by decide +kernel
theorem dX1_isOld_21 : decode cX1_isOld 21 = .ok (.ifCond .ne 19, 3) := by decide +kernel
theorem dX1_isOld_24 : decode cX1_isOld 24 = .ok (.aload_n 0, 1) := by decide +kernel
theorem dX1_isOld_25 : decode cX1_isOld 25 = .ok (.iconst 4, 1) := by decide +kernel
theorem dX1_isOld_26 : decode cX1_isOld 26 = .ok (.iload_n 1, 1) := by decide +kernel
theorem dX1_isOld_27 : decode cX1_isOld 27 = .ok (.imul, 1) := by decide +kernel
theorem dX1_isOld_28 : decode cX1_isOld 28 = .ok (.iload_n 2, 1) := by decide +kernel
theorem dX1_isOld_29 : decode cX1_isOld 29 = .ok (.iadd, 1) := by decide +kernel
theorem dX1_isOld_30 : decode cX1_isOld 30 = .ok (.invokevirtual 94, 3) := by decide +kernel
theorem dX1_isOld_33 : decode cX1_isOld 33 = .ok (.ifCond .eq 7, 3) := by decide +kernel
theorem dX1_isOld_36 : decode cX1_isOld 36 = .ok (.iconst 1, 1) := by decide +kernel
theorem dX1_isOld_37 : decode cX1_isOld 37 = .ok (.goto 4, 3) := by decide +kernel
theorem dX1_isOld_40 : decode cX1_isOld 40 = .ok (.iconst 0, 1) := by decide +kernel
theorem dX1_isOld_41 : decode cX1_isOld 41 = .ok (.ireturn, 1) := by decide +kernel
set_option maxRecDepth 20000 in
theorem ggX1_remake_X1_old : GoodIn wsX1_remake wsX1_old := goodIn_r _ [8, 3, 9, 10, 2, 11, 12, 7, 13, 14, 15, 16, 35, 36, 37, 38, 39, 40, 41, 42, 43, 44, 45, 46, 47, 48, 49] (by decide +kernel) (by decide +kernel)
set_option maxRecDepth 20000 in
theorem gX1_remake_X1_old : GoodIn wsX1_remake (wsV RX1 94 RX1 yX1_old wsX1_old) := goodIn_app (goodIn_of _ (by decide +kernel)) ggX1_remake_X1_old
set_option maxRecDepth 20000 in
theorem ggX1_remake_X1_plate : GoodIn wsX1_remake wsX1_plate := goodIn_r _ [20, 21, 22, 23, 7, 24, 25, 11, 12, 13, 14, 15, 16, 26, 27, 28, 29, 10, 35, 36, 37, 38, 39, 40, 41, 42, 43, 44, 45, 46, 47, 48, 49] (by decide +kernel) (by decide +kernel)
set_option maxRecDepth 20000 in
theorem gX1_remake_X1_plate : GoodIn wsX1_remake (wsV RX1 88 RX1 yX1_plate wsX1_plate) := goodIn_app (goodIn_of _ (by decide +kernel)) ggX1_remake_X1_plate
set_option maxRecDepth 20000 in
theorem ggX1_remake_X1_cuts : GoodIn wsX1_remake wsX1_cuts := goodIn_r _ [33, 3, 9, 10, 2, 34, 11, 12, 7, 13, 14, 15, 16, 17, 18, 19, 20, 21, 22, 23, 24, 25, 26, 27, 28, 29, 35, 36, 37, 38, 39, 40, 41, 42, 43, 44, 45, 46, 47, 48, 49] (by decide +kernel) (by decide +kernel)
set_option maxRecDepth 20000 in
theorem gX1_remake_X1_cuts : GoodIn wsX1_remake (wsV RX1 91 RX1 yX1_cuts wsX1_cuts) := goodIn_app (goodIn_of _ (by decide +kernel)) ggX1_remake_X1_cuts
theorem dX1_remake_0 : decode cX1_remake 0 = .ok (.aload_n 0, 1) := by decide +kernel
theorem dX1_remake_1 : decode cX1_remake 1 = .ok (.iconst 0, 1) := by decide +kernel
theorem dX1_remake_2 : decode cX1_remake 2 = .ok (.putfield 41, 3) := by decide +kernel
theorem dX1_remake_5 : decode cX1_remake 5 = .ok (.iconst 0, 1) := by decide +kernel
theorem dX1_remake_6 : decode cX1_remake 6 = .ok (.istore_n 1, 1) := by decide +kernel
theorem dX1_remake_7 : decode cX1_remake 7 = .ok (.iconst 0, 1) := by decide +kernel
theorem dX1_remake_8 : decode cX1_remake 8 = .ok (.istore_n 2, 1) := by decide +kernel
theorem dX1_remake_9 : decode cX1_remake 9 = .ok (.iload_n 2, 1) := by decide +kernel
theorem dX1_remake_10 : decode cX1_remake 10 = .ok (.bipush 32, 2) := by decide +kernel
theorem dX1_remake_12 : decode cX1_remake 12 = .ok (.if_icmp .ge 63, 3) := by decide +kernel
theorem dX1_remake_15 : decode cX1_remake 15 = .ok (.aload_n 0, 1) := by decide +kernel
theorem dX1_remake_16 : decode cX1_remake 16 = .ok (.iload_n 2, 1) := by decide +kernel
theorem dX1_remake_17 : decode cX1_remake 17 = .ok (.invokevirtual 94, 3) := by decide +kernel
theorem dX1_remake_20 : decode cX1_remake 20 = .ok (.istore_n 3, 1) := by decide +kernel
theorem dX1_remake_21 : decode cX1_remake 21 = .ok (.iload_n 1, 1) := by decide +kernel
theorem dX1_remake_22 : decode cX1_remake 22 = .ok (.iload_n 3, 1) := by decide +kernel
theorem dX1_remake_23 : decode cX1_remake 23 = .ok (.ifCond .eq 7, 3) := by decide +kernel
theorem dX1_remake_26 : decode cX1_remake 26 = .ok (.iconst 1, 1) := by decide +kernel
theorem dX1_remake_27 : decode cX1_remake 27 = .ok (.goto 4, 3) := by decide +kernel
theorem dX1_remake_30 : decode cX1_remake 30 = .ok (.iconst 0, 1) := by decide +kernel
theorem dX1_remake_31 : decode cX1_remake 31 = .ok (.iadd, 1) := by decide +kernel
theorem dX1_remake_32 : decode cX1_remake 32 = .ok (.istore_n 1, 1) := by decide +kernel
theorem dX1_remake_33 : decode cX1_remake 33 = .ok (.aload_n 0, 1) := by decide +kernel
theorem dX1_remake_34 : decode cX1_remake 34 = .ok (.iload_n 3, 1) := by decide +kernel
theorem dX1_remake_35 : decode cX1_remake 35 = .ok (.ifCond .eq 27, 3) := by decide +kernel
theorem dX1_remake_38 : decode cX1_remake 38 = .ok (.aload_n 0, 1) := by decide +kernel
theorem dX1_remake_39 : decode cX1_remake 39 = .ok (.aload_n 0, 1) := by decide +kernel
theorem dX1_remake_40 : decode cX1_remake 40 = .ok (.getfield 25, 3) := by decide +kernel
theorem dX1_remake_43 : decode cX1_remake 43 = .ok (.iload_n 2, 1) := by decide +kernel
theorem dX1_remake_44 : decode cX1_remake 44 = .ok (.iaload, 1) := by decide +kernel
theorem dX1_remake_45 : decode cX1_remake 45 = .ok (.aload_n 0, 1) := by decide +kernel
theorem dX1_remake_46 : decode cX1_remake 46 = .ok (.getfield 28, 3) := by decide +kernel
theorem dX1_remake_49 : decode cX1_remake 49 = .ok (.iload_n 2, 1) := by decide +kernel
theorem dX1_remake_50 : decode cX1_remake 50 = .ok (.iaload, 1) := by decide +kernel
theorem dX1_remake_51 : decode cX1_remake 51 = .ok (.invokevirtual 88, 3) := by decide +kernel
theorem dX1_remake_54 : decode cX1_remake 54 = .ok (.iconst (-1), 1) := by decide +kernel
theorem dX1_remake_55 : decode cX1_remake 55 = .ok (.if_icmp .ne 7, 3) := by decide +kernel
theorem dX1_remake_58 : decode cX1_remake 58 = .ok (.iconst 1, 1) := by decide +kernel
theorem dX1_remake_59 : decode cX1_remake 59 = .ok (.goto 7, 3) := by decide +kernel
theorem dX1_remake_62 : decode cX1_remake 62 = .ok (.aload_n 0, 1) := by decide +kernel
theorem dX1_remake_63 : decode cX1_remake 63 = .ok (.getfield 41, 3) := by decide +kernel
theorem dX1_remake_66 : decode cX1_remake 66 = .ok (.putfield 41, 3) := by decide +kernel
theorem dX1_remake_69 : decode cX1_remake 69 = .ok (.iinc 2 1, 3) := by decide +kernel
theorem dX1_remake_72 : decode cX1_remake 72 = .ok (.goto (-63), 3) := by decide +kernel
theorem dX1_remake_75 : decode cX1_remake 75 = .ok (.iconst 0, 1) := by decide +kernel
theorem dX1_remake_76 : decode cX1_remake 76 = .ok (.istore_n 2, 1) := by decide +kernel
theorem dX1_remake_77 : decode cX1_remake 77 = .ok (.iload_n 2, 1) := by decide +kernel
theorem dX1_remake_78 : decode cX1_remake 78 = .ok (.bipush 32, 2) := by decide +kernel
theorem dX1_remake_80 : decode cX1_remake 80 = .ok (.if_icmp .ge 29, 3) := by decide +kernel
theorem dX1_remake_83 : decode cX1_remake 83 = .ok (.aload_n 0, 1) := by decide +kernel
theorem dX1_remake_84 : decode cX1_remake 84 = .ok (.getfield 41, 3) := by decide +kernel
theorem dX1_remake_87 : decode cX1_remake 87 = .ok (.ifCond .ne 22, 3) := by decide +kernel
theorem dX1_remake_90 : decode cX1_remake 90 = .ok (.aload_n 0, 1) := by decide +kernel
theorem dX1_remake_91 : decode cX1_remake 91 = .ok (.iload_n 2, 1) := by decide +kernel
theorem dX1_remake_92 : decode cX1_remake 92 = .ok (.invokevirtual 94, 3) := by decide +kernel
theorem dX1_remake_95 : decode cX1_remake 95 = .ok (.ifCond .eq 8, 3) := by decide +kernel
theorem dX1_remake_98 : decode cX1_remake 98 = .ok (.aload_n 0, 1) := by decide +kernel
theorem dX1_remake_99 : decode cX1_remake 99 = .ok (.iload_n 2, 1) := by decide +kernel
theorem dX1_remake_100 : decode cX1_remake 100 = .ok (.invokevirtual 91, 3) := by decide +kernel
theorem dX1_remake_103 : decode cX1_remake 103 = .ok (.iinc 2 1, 3) := by decide +kernel
theorem dX1_remake_106 : decode cX1_remake 106 = .ok (.goto (-29), 3) := by decide +kernel
theorem dX1_remake_109 : decode cX1_remake 109 = .ok (.aload_n 0, 1) := by decide +kernel
theorem dX1_remake_110 : decode cX1_remake 110 = .ok (.getfield 41, 3) := by decide +kernel
theorem dX1_remake_113 : decode cX1_remake 113 = .ok (.ifCond .le 7, 3) := by decide +kernel
theorem dX1_remake_116 : decode cX1_remake 116 = .ok (.iconst 0, 1) := by decide +kernel
theorem dX1_remake_117 : decode cX1_remake 117 = .ok (.goto 4, 3) := by decide +kernel
theorem dX1_remake_120 : decode cX1_remake 120 = .ok (.iload_n 1, 1) := by decide +kernel
theorem dX1_remake_121 : decode cX1_remake 121 = .ok (.ireturn, 1) := by decide +kernel
set_option maxRecDepth 20000 in
theorem ggX1_nearest_X1_bits : GoodIn wsX1_nearest wsX1_bits := goodIn_r _ [5] (by decide +kernel) (by decide +kernel)
set_option maxRecDepth 20000 in
theorem gX1_nearest_X1_bits : GoodIn wsX1_nearest (va_wsS RX1 63 yX1_bits wsX1_bits) := goodIn_app (goodIn_of _ (by decide +kernel)) ggX1_nearest_X1_bits
theorem dX1_nearest_0 : decode cX1_nearest 0 = .ok (.iconst (-1), 1) := by decide +kernel
theorem dX1_nearest_1 : decode cX1_nearest 1 = .ok (.istore_n 3, 1) := by decide +kernel
theorem dX1_nearest_2 : decode cX1_nearest 2 = .ok (.iconst 0, 1) := by decide +kernel
theorem dX1_nearest_3 : decode cX1_nearest 3 = .ok (.istore 4, 2) := by decide +kernel
theorem dX1_nearest_5 : decode cX1_nearest 5 = .ok (.iload 4, 2) := by decide +kernel
theorem dX1_nearest_7 : decode cX1_nearest 7 = .ok (.bipush 8, 2) := by decide +kernel
theorem dX1_nearest_9 : decode cX1_nearest 9 = .ok (.if_icmp .ge 65, 3) := by decide +kernel
theorem dX1_nearest_12 : decode cX1_nearest 12 = .ok (.iload 4, 2) := by decide +kernel
theorem dX1_nearest_14 : decode cX1_nearest 14 = .ok (.iload_n 2, 1) := by decide +kernel
theorem dX1_nearest_15 : decode cX1_nearest 15 = .ok (.if_icmp .eq 38, 3) := by decide +kernel
theorem dX1_nearest_18 : decode cX1_nearest 18 = .ok (.iload_n 3, 1) := by decide +kernel
theorem dX1_nearest_19 : decode cX1_nearest 19 = .ok (.iconst (-1), 1) := by decide +kernel
theorem dX1_nearest_20 : decode cX1_nearest 20 = .ok (.if_icmp .eq 29, 3) := by decide +kernel
theorem dX1_nearest_23 : decode cX1_nearest 23 = .ok (.aload_n 0, 1) := by decide +kernel
theorem dX1_nearest_24 : decode cX1_nearest 24 = .ok (.getfield 7, 3) := by decide +kernel
theorem dX1_nearest_27 : decode cX1_nearest 27 = .ok (.iload 4, 2) := by decide +kernel
theorem dX1_nearest_29 : decode cX1_nearest 29 = .ok (.iaload, 1) := by decide +kernel
theorem dX1_nearest_30 : decode cX1_nearest 30 = .ok (.iload_n 1, 1) := by decide +kernel
theorem dX1_nearest_31 : decode cX1_nearest 31 = .ok (.ixor, 1) := by decide +kernel
theorem dX1_nearest_32 : decode cX1_nearest 32 = .ok (.invokestatic 63, 3) := by decide +kernel
theorem dX1_nearest_35 : decode cX1_nearest 35 = .ok (.aload_n 0, 1) := by decide +kernel
theorem dX1_nearest_36 : decode cX1_nearest 36 = .ok (.getfield 7, 3) := by decide +kernel
theorem dX1_nearest_39 : decode cX1_nearest 39 = .ok (.iload_n 3, 1) := by decide +kernel
theorem dX1_nearest_40 : decode cX1_nearest 40 = .ok (.iaload, 1) := by decide +kernel
theorem dX1_nearest_41 : decode cX1_nearest 41 = .ok (.iload_n 1, 1) := by decide +kernel
theorem dX1_nearest_42 : decode cX1_nearest 42 = .ok (.ixor, 1) := by decide +kernel
theorem dX1_nearest_43 : decode cX1_nearest 43 = .ok (.invokestatic 63, 3) := by decide +kernel
theorem dX1_nearest_46 : decode cX1_nearest 46 = .ok (.if_icmp .ge 7, 3) := by decide +kernel
theorem dX1_nearest_49 : decode cX1_nearest 49 = .ok (.iconst 1, 1) := by decide +kernel
theorem dX1_nearest_50 : decode cX1_nearest 50 = .ok (.goto 4, 3) := by decide +kernel
theorem dX1_nearest_53 : decode cX1_nearest 53 = .ok (.iconst 0, 1) := by decide +kernel
theorem dX1_nearest_54 : decode cX1_nearest 54 = .ok (.istore 5, 2) := by decide +kernel
theorem dX1_nearest_56 : decode cX1_nearest 56 = .ok (.iload 5, 2) := by decide +kernel
theorem dX1_nearest_58 : decode cX1_nearest 58 = .ok (.ifCond .eq 8, 3) := by decide +kernel
theorem dX1_nearest_61 : decode cX1_nearest 61 = .ok (.iload 4, 2) := by decide +kernel
theorem dX1_nearest_63 : decode cX1_nearest 63 = .ok (.goto 4, 3) := by decide +kernel
theorem dX1_nearest_66 : decode cX1_nearest 66 = .ok (.iload_n 3, 1) := by decide +kernel
theorem dX1_nearest_67 : decode cX1_nearest 67 = .ok (.istore_n 3, 1) := by decide +kernel
theorem dX1_nearest_68 : decode cX1_nearest 68 = .ok (.iinc 4 1, 3) := by decide +kernel
theorem dX1_nearest_71 : decode cX1_nearest 71 = .ok (.goto (-66), 3) := by decide +kernel
theorem dX1_nearest_74 : decode cX1_nearest 74 = .ok (.iload_n 3, 1) := by decide +kernel
theorem dX1_nearest_75 : decode cX1_nearest 75 = .ok (.ireturn, 1) := by decide +kernel
set_option maxRecDepth 20000 in
theorem ggX1_reads_X1_nearest : GoodIn wsX1_reads wsX1_nearest := goodIn_r _ [9, 3, 10, 11, 8, 12, 13, 14, 15, 16, 17, 18, 19, 20, 21, 22, 23, 24, 25, 26, 27] (by decide +kernel) (by decide +kernel)
set_option maxRecDepth 20000 in
theorem gX1_reads_X1_nearest : GoodIn wsX1_reads (wsV RX1 97 RX1 yX1_nearest wsX1_nearest) := goodIn_app (goodIn_of _ (by decide +kernel)) ggX1_reads_X1_nearest
set_option maxRecDepth 20000 in
theorem ggX1_reads_X1_bits : GoodIn wsX1_reads wsX1_bits := goodIn_r _ [12] (by decide +kernel) (by decide +kernel)
set_option maxRecDepth 20000 in
theorem gX1_reads_X1_bits : GoodIn wsX1_reads (va_wsS RX1 63 yX1_bits wsX1_bits) := goodIn_app (goodIn_of _ (by decide +kernel)) ggX1_reads_X1_bits
theorem dX1_reads_0 : decode cX1_reads 0 = .ok (.iconst 0, 1) := by decide +kernel
theorem dX1_reads_1 : decode cX1_reads 1 = .ok (.istore_n 2, 1) := by decide +kernel
theorem dX1_reads_2 : decode cX1_reads 2 = .ok (.iconst 0, 1) := by decide +kernel
theorem dX1_reads_3 : decode cX1_reads 3 = .ok (.istore_n 3, 1) := by decide +kernel
theorem dX1_reads_4 : decode cX1_reads 4 = .ok (.iload_n 3, 1) := by decide +kernel
theorem dX1_reads_5 : decode cX1_reads 5 = .ok (.aload_n 0, 1) := by decide +kernel
theorem dX1_reads_6 : decode cX1_reads 6 = .ok (.getfield 28, 3) := by decide +kernel
theorem dX1_reads_9 : decode cX1_reads 9 = .ok (.iload_n 1, 1) := by decide +kernel
theorem dX1_reads_10 : decode cX1_reads 10 = .ok (.iaload, 1) := by decide +kernel
theorem dX1_reads_11 : decode cX1_reads 11 = .ok (.if_icmp .ge 101, 3) := by decide +kernel
theorem dX1_reads_14 : decode cX1_reads 14 = .ok (.aload_n 0, 1) := by decide +kernel
theorem dX1_reads_15 : decode cX1_reads 15 = .ok (.getfield 34, 3) := by decide +kernel
theorem dX1_reads_18 : decode cX1_reads 18 = .ok (.iconst 5, 1) := by decide +kernel
theorem dX1_reads_19 : decode cX1_reads 19 = .ok (.iload_n 1, 1) := by decide +kernel
theorem dX1_reads_20 : decode cX1_reads 20 = .ok (.imul, 1) := by decide +kernel
theorem dX1_reads_21 : decode cX1_reads 21 = .ok (.iload_n 3, 1) := by decide +kernel
theorem dX1_reads_22 : decode cX1_reads 22 = .ok (.iadd, 1) := by decide +kernel
theorem dX1_reads_23 : decode cX1_reads 23 = .ok (.iaload, 1) := by decide +kernel
theorem dX1_reads_24 : decode cX1_reads 24 = .ok (.istore 4, 2) := by decide +kernel
theorem dX1_reads_26 : decode cX1_reads 26 = .ok (.aload_n 0, 1) := by decide +kernel
theorem dX1_reads_27 : decode cX1_reads 27 = .ok (.iload 4, 2) := by decide +kernel
theorem dX1_reads_29 : decode cX1_reads 29 = .ok (.iconst (-1), 1) := by decide +kernel
theorem dX1_reads_30 : decode cX1_reads 30 = .ok (.invokevirtual 97, 3) := by decide +kernel
theorem dX1_reads_33 : decode cX1_reads 33 = .ok (.istore 5, 2) := by decide +kernel
theorem dX1_reads_35 : decode cX1_reads 35 = .ok (.aload_n 0, 1) := by decide +kernel
theorem dX1_reads_36 : decode cX1_reads 36 = .ok (.iload 4, 2) := by decide +kernel
theorem dX1_reads_38 : decode cX1_reads 38 = .ok (.iload 5, 2) := by decide +kernel
theorem dX1_reads_40 : decode cX1_reads 40 = .ok (.invokevirtual 97, 3) := by decide +kernel
theorem dX1_reads_43 : decode cX1_reads 43 = .ok (.istore 6, 2) := by decide +kernel
theorem dX1_reads_45 : decode cX1_reads 45 = .ok (.aload_n 0, 1) := by decide +kernel
theorem dX1_reads_46 : decode cX1_reads 46 = .ok (.getfield 7, 3) := by decide +kernel
theorem dX1_reads_49 : decode cX1_reads 49 = .ok (.iload 6, 2) := by decide +kernel
theorem dX1_reads_51 : decode cX1_reads 51 = .ok (.iaload, 1) := by decide +kernel
theorem dX1_reads_52 : decode cX1_reads 52 = .ok (.iload 4, 2) := by decide +kernel
theorem dX1_reads_54 : decode cX1_reads 54 = .ok (.ixor, 1) := by decide +kernel
theorem dX1_reads_55 : decode cX1_reads 55 = .ok (.invokestatic 63, 3) := by decide +kernel
theorem dX1_reads_58 : decode cX1_reads 58 = .ok (.aload_n 0, 1) := by decide +kernel
theorem dX1_reads_59 : decode cX1_reads 59 = .ok (.getfield 7, 3) := by decide +kernel
theorem dX1_reads_62 : decode cX1_reads 62 = .ok (.iload 5, 2) := by decide +kernel
theorem dX1_reads_64 : decode cX1_reads 64 = .ok (.iaload, 1) := by decide +kernel
theorem dX1_reads_65 : decode cX1_reads 65 = .ok (.iload 4, 2) := by decide +kernel
theorem dX1_reads_67 : decode cX1_reads 67 = .ok (.ixor, 1) := by decide +kernel
theorem dX1_reads_68 : decode cX1_reads 68 = .ok (.invokestatic 63, 3) := by decide +kernel
theorem dX1_reads_71 : decode cX1_reads 71 = .ok (.isub, 1) := by decide +kernel
theorem dX1_reads_72 : decode cX1_reads 72 = .ok (.aload_n 0, 1) := by decide +kernel
theorem dX1_reads_73 : decode cX1_reads 73 = .ok (.getfield 31, 3) := by decide +kernel
theorem dX1_reads_76 : decode cX1_reads 76 = .ok (.iload_n 1, 1) := by decide +kernel
theorem dX1_reads_77 : decode cX1_reads 77 = .ok (.iaload, 1) := by decide +kernel
theorem dX1_reads_78 : decode cX1_reads 78 = .ok (.if_icmp .lt 7, 3) := by decide +kernel
theorem dX1_reads_81 : decode cX1_reads 81 = .ok (.iconst 1, 1) := by decide +kernel
theorem dX1_reads_82 : decode cX1_reads 82 = .ok (.goto 4, 3) := by decide +kernel
theorem dX1_reads_85 : decode cX1_reads 85 = .ok (.iconst 0, 1) := by decide +kernel
theorem dX1_reads_86 : decode cX1_reads 86 = .ok (.istore 7, 2) := by decide +kernel
theorem dX1_reads_88 : decode cX1_reads 88 = .ok (.bipush 8, 2) := by decide +kernel
theorem dX1_reads_90 : decode cX1_reads 90 = .ok (.iload_n 2, 1) := by decide +kernel
theorem dX1_reads_91 : decode cX1_reads 91 = .ok (.imul, 1) := by decide +kernel
theorem dX1_reads_92 : decode cX1_reads 92 = .ok (.iload 7, 2) := by decide +kernel
theorem dX1_reads_94 : decode cX1_reads 94 = .ok (.ifCond .eq 8, 3) := by decide +kernel
theorem dX1_reads_97 : decode cX1_reads 97 = .ok (.iload 5, 2) := by decide +kernel
theorem dX1_reads_99 : decode cX1_reads 99 = .ok (.goto 5, 3) := by decide +kernel
theorem dX1_reads_102 : decode cX1_reads 102 = .ok (.iload 6, 2) := by decide +kernel
theorem dX1_reads_104 : decode cX1_reads 104 = .ok (.iadd, 1) := by decide +kernel
theorem dX1_reads_105 : decode cX1_reads 105 = .ok (.istore_n 2, 1) := by decide +kernel
theorem dX1_reads_106 : decode cX1_reads 106 = .ok (.iinc 3 1, 3) := by decide +kernel
theorem dX1_reads_109 : decode cX1_reads 109 = .ok (.goto (-105), 3) := by decide +kernel
theorem dX1_reads_112 : decode cX1_reads 112 = .ok (.iload_n 2, 1) := by decide +kernel
theorem dX1_reads_113 : decode cX1_reads 113 = .ok (.ireturn, 1) := by decide +kernel
set_option maxRecDepth 20000 in
theorem ggX1_read_X1_isExit : GoodIn wsX1_read wsX1_isExit := goodIn_r _ [6, 7, 8, 5, 9, 10, 11, 12] (by decide +kernel) (by decide +kernel)
set_option maxRecDepth 20000 in
theorem gX1_read_X1_isExit : GoodIn wsX1_read (va_wsS RX1 69 yX1_isExit wsX1_isExit) := goodIn_app (goodIn_of _ (by decide +kernel)) ggX1_read_X1_isExit
set_option maxRecDepth 20000 in
theorem ggX1_read_X1_reads : GoodIn wsX1_read wsX1_reads := goodIn_r _ [16, 2, 17, 18, 19, 20, 21, 22, 5, 23, 24, 25, 26, 27, 28, 29, 30, 31, 32, 33, 34, 35, 36, 37, 38, 39, 40, 41] (by decide +kernel) (by decide +kernel)
set_option maxRecDepth 20000 in
theorem gX1_read_X1_reads : GoodIn wsX1_read (wsV RX1 100 RX1 yX1_reads wsX1_reads) := goodIn_app (goodIn_of _ (by decide +kernel)) ggX1_read_X1_reads
theorem dX1_read_0 : decode cX1_read 0 = .ok (.aload_n 0, 1) := by decide +kernel
theorem dX1_read_1 : decode cX1_read 1 = .ok (.iload_n 1, 1) := by decide +kernel
theorem dX1_read_2 : decode cX1_read 2 = .ok (.iload_n 2, 1) := by decide +kernel
theorem dX1_read_3 : decode cX1_read 3 = .ok (.invokestatic 69, 3) := by decide +kernel
theorem dX1_read_6 : decode cX1_read 6 = .ok (.ifCond .eq 7, 3) := by decide +kernel
theorem dX1_read_9 : decode cX1_read 9 = .ok (.iconst 0, 1) := by decide +kernel
theorem dX1_read_10 : decode cX1_read 10 = .ok (.goto 4, 3) := by decide +kernel
theorem dX1_read_13 : decode cX1_read 13 = .ok (.iconst 1, 1) := by decide +kernel
theorem dX1_read_14 : decode cX1_read 14 = .ok (.putfield 41, 3) := by decide +kernel
theorem dX1_read_17 : decode cX1_read 17 = .ok (.iconst 4, 1) := by decide +kernel
theorem dX1_read_18 : decode cX1_read 18 = .ok (.iload_n 1, 1) := by decide +kernel
theorem dX1_read_19 : decode cX1_read 19 = .ok (.imul, 1) := by decide +kernel
theorem dX1_read_20 : decode cX1_read 20 = .ok (.iload_n 2, 1) := by decide +kernel
theorem dX1_read_21 : decode cX1_read 21 = .ok (.iadd, 1) := by decide +kernel
theorem dX1_read_22 : decode cX1_read 22 = .ok (.istore_n 3, 1) := by decide +kernel
theorem dX1_read_23 : decode cX1_read 23 = .ok (.aload_n 0, 1) := by decide +kernel
theorem dX1_read_24 : decode cX1_read 24 = .ok (.getfield 41, 3) := by decide +kernel
theorem dX1_read_27 : decode cX1_read 27 = .ok (.ifCond .le 7, 3) := by decide +kernel
theorem dX1_read_30 : decode cX1_read 30 = .ok (.iconst 0, 1) := by decide +kernel
theorem dX1_read_31 : decode cX1_read 31 = .ok (.goto 21, 3) := by decide +kernel
theorem dX1_read_34 : decode cX1_read 34 = .ok (.aload_n 0, 1) := by decide +kernel
theorem dX1_read_35 : decode cX1_read 35 = .ok (.getfield 28, 3) := by decide +kernel
theorem dX1_read_38 : decode cX1_read 38 = .ok (.iload_n 3, 1) := by decide +kernel
theorem dX1_read_39 : decode cX1_read 39 = .ok (.iaload, 1) := by decide +kernel
theorem dX1_read_40 : decode cX1_read 40 = .ok (.ifCond .ne 7, 3) := by decide +kernel
theorem dX1_read_43 : decode cX1_read 43 = .ok (.iconst (-1), 1) := by decide +kernel
theorem dX1_read_44 : decode cX1_read 44 = .ok (.goto 8, 3) := by decide +kernel
theorem dX1_read_47 : decode cX1_read 47 = .ok (.aload_n 0, 1) := by decide +kernel
theorem dX1_read_48 : decode cX1_read 48 = .ok (.iload_n 3, 1) := by decide +kernel
theorem dX1_read_49 : decode cX1_read 49 = .ok (.invokevirtual 100, 3) := by decide +kernel
theorem dX1_read_52 : decode cX1_read 52 = .ok (.ireturn, 1) := by decide +kernel
theorem dX1_cost_0 : decode cX1_cost 0 = .ok (.aload_n 0, 1) := by decide +kernel
theorem dX1_cost_1 : decode cX1_cost 1 = .ok (.iconst 0, 1) := by decide +kernel
theorem dX1_cost_2 : decode cX1_cost 2 = .ok (.putfield 41, 3) := by decide +kernel
theorem dX1_cost_5 : decode cX1_cost 5 = .ok (.aload_n 0, 1) := by decide +kernel
theorem dX1_cost_6 : decode cX1_cost 6 = .ok (.getfield 84, 3) := by decide +kernel
theorem dX1_cost_9 : decode cX1_cost 9 = .ok (.lreturn, 1) := by decide +kernel
set_option maxRecDepth 20000 in
theorem ggX1_takes_X1_reads : GoodIn wsX1_takes wsX1_reads := goodIn_r _ [8, 3, 9, 10, 11, 12, 13, 14, 7, 15, 16, 17, 18, 19, 20, 21, 22, 23, 24, 25, 26, 27, 28, 29, 30, 31, 32, 33] (by decide +kernel) (by decide +kernel)
set_option maxRecDepth 20000 in
theorem gX1_takes_X1_reads : GoodIn wsX1_takes (wsV RX1 100 RX1 yX1_reads wsX1_reads) := goodIn_app (goodIn_of _ (by decide +kernel)) ggX1_takes_X1_reads
theorem dX1_takes_0 : decode cX1_takes 0 = .ok (.iconst (-1), 1) := by decide +kernel
theorem dX1_takes_1 : decode cX1_takes 1 = .ok (.istore 4, 2) := by decide +kernel
theorem dX1_takes_3 : decode cX1_takes 3 = .ok (.iconst (-1), 1) := by decide +kernel
theorem dX1_takes_4 : decode cX1_takes 4 = .ok (.istore 5, 2) := by decide +kernel
theorem dX1_takes_6 : decode cX1_takes 6 = .ok (.iconst 4, 1) := by decide +kernel
theorem dX1_takes_7 : decode cX1_takes 7 = .ok (.iload_n 1, 1) := by decide +kernel
theorem dX1_takes_8 : decode cX1_takes 8 = .ok (.imul, 1) := by decide +kernel
theorem dX1_takes_9 : decode cX1_takes 9 = .ok (.iconst 4, 1) := by decide +kernel
theorem dX1_takes_10 : decode cX1_takes 10 = .ok (.iadd, 1) := by decide +kernel
theorem dX1_takes_11 : decode cX1_takes 11 = .ok (.iconst 1, 1) := by decide +kernel
theorem dX1_takes_12 : decode cX1_takes 12 = .ok (.isub, 1) := by decide +kernel
theorem dX1_takes_13 : decode cX1_takes 13 = .ok (.istore 6, 2) := by decide +kernel
theorem dX1_takes_15 : decode cX1_takes 15 = .ok (.iload 6, 2) := by decide +kernel
theorem dX1_takes_17 : decode cX1_takes 17 = .ok (.iconst 4, 1) := by decide +kernel
theorem dX1_takes_18 : decode cX1_takes 18 = .ok (.iload_n 1, 1) := by decide +kernel
theorem dX1_takes_19 : decode cX1_takes 19 = .ok (.imul, 1) := by decide +kernel
theorem dX1_takes_20 : decode cX1_takes 20 = .ok (.if_icmp .lt 86, 3) := by decide +kernel
theorem dX1_takes_23 : decode cX1_takes 23 = .ok (.aload_n 0, 1) := by decide +kernel
theorem dX1_takes_24 : decode cX1_takes 24 = .ok (.getfield 16, 3) := by decide +kernel
theorem dX1_takes_27 : decode cX1_takes 27 = .ok (.iload 6, 2) := by decide +kernel
theorem dX1_takes_29 : decode cX1_takes 29 = .ok (.iaload, 1) := by decide +kernel
theorem dX1_takes_30 : decode cX1_takes 30 = .ok (.iconst (-1), 1) := by decide +kernel
theorem dX1_takes_31 : decode cX1_takes 31 = .ok (.if_icmp .eq 7, 3) := by decide +kernel
theorem dX1_takes_34 : decode cX1_takes 34 = .ok (.iconst 1, 1) := by decide +kernel
theorem dX1_takes_35 : decode cX1_takes 35 = .ok (.goto 4, 3) := by decide +kernel
theorem dX1_takes_38 : decode cX1_takes 38 = .ok (.iconst 0, 1) := by decide +kernel
theorem dX1_takes_39 : decode cX1_takes 39 = .ok (.istore 7, 2) := by decide +kernel
theorem dX1_takes_41 : decode cX1_takes 41 = .ok (.iload 7, 2) := by decide +kernel
theorem dX1_takes_43 : decode cX1_takes 43 = .ok (.ifCond .eq 18, 3) := by decide +kernel
theorem dX1_takes_46 : decode cX1_takes 46 = .ok (.aload_n 0, 1) := by decide +kernel
theorem dX1_takes_47 : decode cX1_takes 47 = .ok (.getfield 37, 3) := by decide +kernel
theorem dX1_takes_50 : decode cX1_takes 50 = .ok (.iload 6, 2) := by decide +kernel
theorem dX1_takes_52 : decode cX1_takes 52 = .ok (.baload, 1) := by decide +kernel
theorem dX1_takes_53 : decode cX1_takes 53 = .ok (.ifCond .ne 8, 3) := by decide +kernel
theorem dX1_takes_56 : decode cX1_takes 56 = .ok (.iload 6, 2) := by decide +kernel
theorem dX1_takes_58 : decode cX1_takes 58 = .ok (.goto 5, 3) := by decide +kernel
theorem dX1_takes_61 : decode cX1_takes 61 = .ok (.iload 4, 2) := by decide +kernel
theorem dX1_takes_63 : decode cX1_takes 63 = .ok (.istore 4, 2) := by decide +kernel
theorem dX1_takes_65 : decode cX1_takes 65 = .ok (.iload 7, 2) := by decide +kernel
theorem dX1_takes_67 : decode cX1_takes 67 = .ok (.ifCond .eq 29, 3) := by decide +kernel
theorem dX1_takes_70 : decode cX1_takes 70 = .ok (.aload_n 0, 1) := by decide +kernel
theorem dX1_takes_71 : decode cX1_takes 71 = .ok (.getfield 28, 3) := by decide +kernel
theorem dX1_takes_74 : decode cX1_takes 74 = .ok (.iload 6, 2) := by decide +kernel
theorem dX1_takes_76 : decode cX1_takes 76 = .ok (.iaload, 1) := by decide +kernel
theorem dX1_takes_77 : decode cX1_takes 77 = .ok (.iload_n 3, 1) := by decide +kernel
theorem dX1_takes_78 : decode cX1_takes 78 = .ok (.if_icmp .ne 18, 3) := by decide +kernel
theorem dX1_takes_81 : decode cX1_takes 81 = .ok (.aload_n 0, 1) := by decide +kernel
theorem dX1_takes_82 : decode cX1_takes 82 = .ok (.iload 6, 2) := by decide +kernel
theorem dX1_takes_84 : decode cX1_takes 84 = .ok (.invokevirtual 100, 3) := by decide +kernel
theorem dX1_takes_87 : decode cX1_takes 87 = .ok (.iload_n 2, 1) := by decide +kernel
theorem dX1_takes_88 : decode cX1_takes 88 = .ok (.if_icmp .ne 8, 3) := by decide +kernel
theorem dX1_takes_91 : decode cX1_takes 91 = .ok (.iload 6, 2) := by decide +kernel
theorem dX1_takes_93 : decode cX1_takes 93 = .ok (.goto 5, 3) := by decide +kernel
theorem dX1_takes_96 : decode cX1_takes 96 = .ok (.iload 5, 2) := by decide +kernel
theorem dX1_takes_98 : decode cX1_takes 98 = .ok (.istore 5, 2) := by decide +kernel
theorem dX1_takes_100 : decode cX1_takes 100 = .ok (.iinc 6 (-1), 3) := by decide +kernel
theorem dX1_takes_103 : decode cX1_takes 103 = .ok (.goto (-88), 3) := by decide +kernel
theorem dX1_takes_106 : decode cX1_takes 106 = .ok (.iload 5, 2) := by decide +kernel
theorem dX1_takes_108 : decode cX1_takes 108 = .ok (.iconst (-1), 1) := by decide +kernel
theorem dX1_takes_109 : decode cX1_takes 109 = .ok (.if_icmp .eq 8, 3) := by decide +kernel
theorem dX1_takes_112 : decode cX1_takes 112 = .ok (.iload 5, 2) := by decide +kernel
theorem dX1_takes_114 : decode cX1_takes 114 = .ok (.goto 5, 3) := by decide +kernel
theorem dX1_takes_117 : decode cX1_takes 117 = .ok (.iload 4, 2) := by decide +kernel
theorem dX1_takes_119 : decode cX1_takes 119 = .ok (.ireturn, 1) := by decide +kernel
set_option maxRecDepth 20000 in
theorem ggX1_follows_X1_takes : GoodIn wsX1_follows wsX1_takes := goodIn_r _ [12, 7, 1, 13, 14, 15, 16, 11, 17, 18, 19, 20, 21, 22, 23, 24, 25, 26, 27, 28, 29, 30, 31, 32, 33, 34, 35, 36, 37, 38, 39, 40, 41, 42] (by decide +kernel) (by decide +kernel)
set_option maxRecDepth 20000 in
theorem gX1_follows_X1_takes : GoodIn wsX1_follows (wsV RX1 113 RX1 yX1_takes wsX1_takes) := goodIn_app (goodIn_of _ (by decide +kernel)) ggX1_follows_X1_takes
theorem dX1_follows_0 : decode cX1_follows 0 = .ok (.iconst 0, 1) := by decide +kernel
theorem dX1_follows_1 : decode cX1_follows 1 = .ok (.istore 5, 2) := by decide +kernel
theorem dX1_follows_3 : decode cX1_follows 3 = .ok (.iload 5, 2) := by decide +kernel
theorem dX1_follows_5 : decode cX1_follows 5 = .ok (.bipush 32, 2) := by decide +kernel
theorem dX1_follows_7 : decode cX1_follows 7 = .ok (.if_icmp .ge 17, 3) := by decide +kernel
theorem dX1_follows_10 : decode cX1_follows 10 = .ok (.aload_n 0, 1) := by decide +kernel
theorem dX1_follows_11 : decode cX1_follows 11 = .ok (.getfield 37, 3) := by decide +kernel
theorem dX1_follows_14 : decode cX1_follows 14 = .ok (.iload 5, 2) := by decide +kernel
theorem dX1_follows_16 : decode cX1_follows 16 = .ok (.iconst 0, 1) := by decide +kernel
theorem dX1_follows_17 : decode cX1_follows 17 = .ok (.bastore, 1) := by decide +kernel
theorem dX1_follows_18 : decode cX1_follows 18 = .ok (.iinc 5 1, 3) := by decide +kernel
theorem dX1_follows_21 : decode cX1_follows 21 = .ok (.goto (-18), 3) := by decide +kernel
theorem dX1_follows_24 : decode cX1_follows 24 = .ok (.aload_n 0, 1) := by decide +kernel
theorem dX1_follows_25 : decode cX1_follows 25 = .ok (.iconst 0, 1) := by decide +kernel
theorem dX1_follows_26 : decode cX1_follows 26 = .ok (.putfield 103, 3) := by decide +kernel
theorem dX1_follows_29 : decode cX1_follows 29 = .ok (.aload_n 0, 1) := by decide +kernel
theorem dX1_follows_30 : decode cX1_follows 30 = .ok (.iload_n 1, 1) := by decide +kernel
theorem dX1_follows_31 : decode cX1_follows 31 = .ok (.putfield 106, 3) := by decide +kernel
theorem dX1_follows_34 : decode cX1_follows 34 = .ok (.aload_n 0, 1) := by decide +kernel
theorem dX1_follows_35 : decode cX1_follows 35 = .ok (.aload_n 0, 1) := by decide +kernel
theorem dX1_follows_36 : decode cX1_follows 36 = .ok (.getfield 22, 3) := by decide +kernel
theorem dX1_follows_39 : decode cX1_follows 39 = .ok (.aload_n 0, 1) := by decide +kernel
theorem dX1_follows_40 : decode cX1_follows 40 = .ok (.getfield 106, 3) := by decide +kernel
theorem dX1_follows_43 : decode cX1_follows 43 = .ok (.iaload, 1) := by decide +kernel
theorem dX1_follows_44 : decode cX1_follows 44 = .ok (.iload_n 3, 1) := by decide +kernel
theorem dX1_follows_45 : decode cX1_follows 45 = .ok (.if_icmp .ne 20, 3) := by decide +kernel
theorem dX1_follows_48 : decode cX1_follows 48 = .ok (.aload_n 0, 1) := by decide +kernel
theorem dX1_follows_49 : decode cX1_follows 49 = .ok (.getfield 19, 3) := by decide +kernel
theorem dX1_follows_52 : decode cX1_follows 52 = .ok (.aload_n 0, 1) := by decide +kernel
theorem dX1_follows_53 : decode cX1_follows 53 = .ok (.getfield 106, 3) := by decide +kernel
theorem dX1_follows_56 : decode cX1_follows 56 = .ok (.iaload, 1) := by decide +kernel
theorem dX1_follows_57 : decode cX1_follows 57 = .ok (.iload_n 2, 1) := by decide +kernel
theorem dX1_follows_58 : decode cX1_follows 58 = .ok (.if_icmp .ne 7, 3) := by decide +kernel
theorem dX1_follows_61 : decode cX1_follows 61 = .ok (.iconst 1, 1) := by decide +kernel
theorem dX1_follows_62 : decode cX1_follows 62 = .ok (.goto 4, 3) := by decide +kernel
theorem dX1_follows_65 : decode cX1_follows 65 = .ok (.iconst 0, 1) := by decide +kernel
theorem dX1_follows_66 : decode cX1_follows 66 = .ok (.putfield 109, 3) := by decide +kernel
theorem dX1_follows_69 : decode cX1_follows 69 = .ok (.iconst 0, 1) := by decide +kernel
theorem dX1_follows_70 : decode cX1_follows 70 = .ok (.istore 5, 2) := by decide +kernel
theorem dX1_follows_72 : decode cX1_follows 72 = .ok (.aload_n 0, 1) := by decide +kernel
theorem dX1_follows_73 : decode cX1_follows 73 = .ok (.getfield 109, 3) := by decide +kernel
theorem dX1_follows_76 : decode cX1_follows 76 = .ok (.ifCond .ne 114, 3) := by decide +kernel
theorem dX1_follows_79 : decode cX1_follows 79 = .ok (.iload 5, 2) := by decide +kernel
theorem dX1_follows_81 : decode cX1_follows 81 = .ok (.ifCond .ne 109, 3) := by decide +kernel
theorem dX1_follows_84 : decode cX1_follows 84 = .ok (.aload_n 0, 1) := by decide +kernel
theorem dX1_follows_85 : decode cX1_follows 85 = .ok (.getfield 103, 3) := by decide +kernel
theorem dX1_follows_88 : decode cX1_follows 88 = .ok (.iload 4, 2) := by decide +kernel
theorem dX1_follows_90 : decode cX1_follows 90 = .ok (.if_icmp .ge 100, 3) := by decide +kernel
theorem dX1_follows_93 : decode cX1_follows 93 = .ok (.aload_n 0, 1) := by decide +kernel
theorem dX1_follows_94 : decode cX1_follows 94 = .ok (.aload_n 0, 1) := by decide +kernel
theorem dX1_follows_95 : decode cX1_follows 95 = .ok (.getfield 106, 3) := by decide +kernel
theorem dX1_follows_98 : decode cX1_follows 98 = .ok (.iload_n 2, 1) := by decide +kernel
theorem dX1_follows_99 : decode cX1_follows 99 = .ok (.iload_n 3, 1) := by decide +kernel
theorem dX1_follows_100 : decode cX1_follows 100 = .ok (.invokevirtual 113, 3) := by decide +kernel
theorem dX1_follows_103 : decode cX1_follows 103 = .ok (.istore 6, 2) := by decide +kernel
theorem dX1_follows_105 : decode cX1_follows 105 = .ok (.iload 6, 2) := by decide +kernel
theorem dX1_follows_107 : decode cX1_follows 107 = .ok (.iconst (-1), 1) := by decide +kernel
theorem dX1_follows_108 : decode cX1_follows 108 = .ok (.if_icmp .ne 7, 3) := by decide +kernel
theorem dX1_follows_111 : decode cX1_follows 111 = .ok (.iconst 1, 1) := by decide +kernel
theorem dX1_follows_112 : decode cX1_follows 112 = .ok (.goto 4, 3) := by decide +kernel
theorem dX1_follows_115 : decode cX1_follows 115 = .ok (.iconst 0, 1) := by decide +kernel
theorem dX1_follows_116 : decode cX1_follows 116 = .ok (.istore 5, 2) := by decide +kernel
theorem dX1_follows_118 : decode cX1_follows 118 = .ok (.iload 5, 2) := by decide +kernel
theorem dX1_follows_120 : decode cX1_follows 120 = .ok (.ifCond .ne 67, 3) := by decide +kernel
theorem dX1_follows_123 : decode cX1_follows 123 = .ok (.aload_n 0, 1) := by decide +kernel
theorem dX1_follows_124 : decode cX1_follows 124 = .ok (.getfield 37, 3) := by decide +kernel
theorem dX1_follows_127 : decode cX1_follows 127 = .ok (.iload 6, 2) := by decide +kernel
theorem dX1_follows_129 : decode cX1_follows 129 = .ok (.iconst 1, 1) := by decide +kernel
theorem dX1_follows_130 : decode cX1_follows 130 = .ok (.bastore, 1) := by decide +kernel
theorem dX1_follows_131 : decode cX1_follows 131 = .ok (.aload_n 0, 1) := by decide +kernel
theorem dX1_follows_132 : decode cX1_follows 132 = .ok (.aload_n 0, 1) := by decide +kernel
theorem dX1_follows_133 : decode cX1_follows 133 = .ok (.getfield 16, 3) := by decide +kernel
theorem dX1_follows_136 : decode cX1_follows 136 = .ok (.iload 6, 2) := by decide +kernel
theorem dX1_follows_138 : decode cX1_follows 138 = .ok (.iaload, 1) := by decide +kernel
theorem dX1_follows_139 : decode cX1_follows 139 = .ok (.putfield 106, 3) := by decide +kernel
theorem dX1_follows_142 : decode cX1_follows 142 = .ok (.aload_n 0, 1) := by decide +kernel
theorem dX1_follows_143 : decode cX1_follows 143 = .ok (.dup, 1) := by decide +kernel
theorem dX1_follows_144 : decode cX1_follows 144 = .ok (.getfield 103, 3) := by decide +kernel
theorem dX1_follows_147 : decode cX1_follows 147 = .ok (.iconst 1, 1) := by decide +kernel
theorem dX1_follows_148 : decode cX1_follows 148 = .ok (.iadd, 1) := by decide +kernel
theorem dX1_follows_149 : decode cX1_follows 149 = .ok (.putfield 103, 3) := by decide +kernel
theorem dX1_follows_152 : decode cX1_follows 152 = .ok (.aload_n 0, 1) := by decide +kernel
theorem dX1_follows_153 : decode cX1_follows 153 = .ok (.aload_n 0, 1) := by decide +kernel
theorem dX1_follows_154 : decode cX1_follows 154 = .ok (.getfield 22, 3) := by decide +kernel
theorem dX1_follows_157 : decode cX1_follows 157 = .ok (.aload_n 0, 1) := by decide +kernel
theorem dX1_follows_158 : decode cX1_follows 158 = .ok (.getfield 106, 3) := by decide +kernel
theorem dX1_follows_161 : decode cX1_follows 161 = .ok (.iaload, 1) := by decide +kernel
theorem dX1_follows_162 : decode cX1_follows 162 = .ok (.iload_n 3, 1) := by decide +kernel
theorem dX1_follows_163 : decode cX1_follows 163 = .ok (.if_icmp .ne 20, 3) := by decide +kernel
theorem dX1_follows_166 : decode cX1_follows 166 = .ok (.aload_n 0, 1) := by decide +kernel
theorem dX1_follows_167 : decode cX1_follows 167 = .ok (.getfield 19, 3) := by decide +kernel
theorem dX1_follows_170 : decode cX1_follows 170 = .ok (.aload_n 0, 1) := by decide +kernel
theorem dX1_follows_171 : decode cX1_follows 171 = .ok (.getfield 106, 3) := by decide +kernel
theorem dX1_follows_174 : decode cX1_follows 174 = .ok (.iaload, 1) := by decide +kernel
theorem dX1_follows_175 : decode cX1_follows 175 = .ok (.iload_n 2, 1) := by decide +kernel
theorem dX1_follows_176 : decode cX1_follows 176 = .ok (.if_icmp .ne 7, 3) := by decide +kernel
theorem dX1_follows_179 : decode cX1_follows 179 = .ok (.iconst 1, 1) := by decide +kernel
theorem dX1_follows_180 : decode cX1_follows 180 = .ok (.goto 4, 3) := by decide +kernel
theorem dX1_follows_183 : decode cX1_follows 183 = .ok (.iconst 0, 1) := by decide +kernel
theorem dX1_follows_184 : decode cX1_follows 184 = .ok (.putfield 109, 3) := by decide +kernel
theorem dX1_follows_187 : decode cX1_follows 187 = .ok (.goto (-115), 3) := by decide +kernel
theorem dX1_follows_190 : decode cX1_follows 190 = .ok (.return_, 1) := by decide +kernel
set_option maxRecDepth 20000 in
theorem ggX1_walk_X1_isPlace : GoodIn wsX1_walk wsX1_isPlace := goodIn_r _ [7, 8, 9, 6, 10] (by decide +kernel) (by decide +kernel)
set_option maxRecDepth 20000 in
theorem gX1_walk_X1_isPlace : GoodIn wsX1_walk (va_wsS RX1 49 yX1_isPlace wsX1_isPlace) := goodIn_app (goodIn_of _ (by decide +kernel)) ggX1_walk_X1_isPlace
set_option maxRecDepth 20000 in
theorem ggX1_walk_X1_isText : GoodIn wsX1_walk wsX1_isText := goodIn_r _ [13, 8, 9, 6, 10, 14, 15, 16] (by decide +kernel) (by decide +kernel)
set_option maxRecDepth 20000 in
theorem gX1_walk_X1_isText : GoodIn wsX1_walk (va_wsS RX1 73 yX1_isText wsX1_isText) := goodIn_app (goodIn_of _ (by decide +kernel)) ggX1_walk_X1_isText
set_option maxRecDepth 20000 in
theorem ggX1_walk_X1_follows : GoodIn wsX1_walk wsX1_follows := goodIn_r _ [20, 21, 3, 22, 23, 24, 2, 25, 26, 27, 28, 6, 29, 30, 31, 32, 33, 34, 35, 36, 37, 38, 39, 40, 41, 42, 43, 44, 45, 46, 47, 48, 49, 50, 51, 52, 53, 54, 55, 56, 57, 58, 59] (by decide +kernel) (by decide +kernel)
set_option maxRecDepth 20000 in
theorem gX1_walk_X1_follows : GoodIn wsX1_walk (wsV RX1 116 RX1 yX1_follows wsX1_follows) := goodIn_app (goodIn_of _ (by decide +kernel)) ggX1_walk_X1_follows
theorem dX1_walk_0 : decode cX1_walk 0 = .ok (.aload_n 0, 1) := by decide +kernel
theorem dX1_walk_1 : decode cX1_walk 1 = .ok (.iload_n 1, 1) := by decide +kernel
theorem dX1_walk_2 : decode cX1_walk 2 = .ok (.invokestatic 49, 3) := by decide +kernel
theorem dX1_walk_5 : decode cX1_walk 5 = .ok (.ifCond .ne 7, 3) := by decide +kernel
theorem dX1_walk_8 : decode cX1_walk 8 = .ok (.iconst 1, 1) := by decide +kernel
theorem dX1_walk_9 : decode cX1_walk 9 = .ok (.goto 16, 3) := by decide +kernel
theorem dX1_walk_12 : decode cX1_walk 12 = .ok (.iload_n 2, 1) := by decide +kernel
theorem dX1_walk_13 : decode cX1_walk 13 = .ok (.iload_n 3, 1) := by decide +kernel
theorem dX1_walk_14 : decode cX1_walk 14 = .ok (.invokestatic 73, 3) := by decide +kernel
theorem dX1_walk_17 : decode cX1_walk 17 = .ok (.ifCond .eq 7, 3) := by decide +kernel
theorem dX1_walk_20 : decode cX1_walk 20 = .ok (.iconst 0, 1) := by decide +kernel
theorem dX1_walk_21 : decode cX1_walk 21 = .ok (.goto 4, 3) := by decide +kernel
theorem dX1_walk_24 : decode cX1_walk 24 = .ok (.iconst 2, 1) := by decide +kernel
theorem dX1_walk_25 : decode cX1_walk 25 = .ok (.putfield 41, 3) := by decide +kernel
theorem dX1_walk_28 : decode cX1_walk 28 = .ok (.aload_n 0, 1) := by decide +kernel
theorem dX1_walk_29 : decode cX1_walk 29 = .ok (.getfield 41, 3) := by decide +kernel
theorem dX1_walk_32 : decode cX1_walk 32 = .ok (.ifCond .le 5, 3) := by decide +kernel
theorem dX1_walk_35 : decode cX1_walk 35 = .ok (.iconst 0, 1) := by decide +kernel
theorem dX1_walk_36 : decode cX1_walk 36 = .ok (.ireturn, 1) := by decide +kernel
theorem dX1_walk_37 : decode cX1_walk 37 = .ok (.aload_n 0, 1) := by decide +kernel
theorem dX1_walk_38 : decode cX1_walk 38 = .ok (.iload_n 1, 1) := by decide +kernel
theorem dX1_walk_39 : decode cX1_walk 39 = .ok (.iload_n 2, 1) := by decide +kernel
theorem dX1_walk_40 : decode cX1_walk 40 = .ok (.iload_n 3, 1) := by decide +kernel
theorem dX1_walk_41 : decode cX1_walk 41 = .ok (.bipush 30, 2) := by decide +kernel
theorem dX1_walk_43 : decode cX1_walk 43 = .ok (.invokevirtual 116, 3) := by decide +kernel
theorem dX1_walk_46 : decode cX1_walk 46 = .ok (.aload_n 0, 1) := by decide +kernel
theorem dX1_walk_47 : decode cX1_walk 47 = .ok (.getfield 109, 3) := by decide +kernel
theorem dX1_walk_50 : decode cX1_walk 50 = .ok (.ifCond .eq 10, 3) := by decide +kernel
theorem dX1_walk_53 : decode cX1_walk 53 = .ok (.aload_n 0, 1) := by decide +kernel
theorem dX1_walk_54 : decode cX1_walk 54 = .ok (.getfield 103, 3) := by decide +kernel
theorem dX1_walk_57 : decode cX1_walk 57 = .ok (.goto 4, 3) := by decide +kernel
theorem dX1_walk_60 : decode cX1_walk 60 = .ok (.iconst (-1), 1) := by decide +kernel
theorem dX1_walk_61 : decode cX1_walk 61 = .ok (.ireturn, 1) := by decide +kernel
set_option maxRecDepth 20000 in
theorem ggX1_walkBySteps_X1_walk : GoodIn wsX1_walkBySteps wsX1_walk := goodIn_r _ [5, 6, 7, 8, 9, 10, 4, 11, 12, 13, 14, 15, 16, 17, 18, 19, 20, 21, 22, 23, 24, 25, 26, 27, 28, 29, 30, 31, 32, 33, 34, 35, 36, 37, 38, 39, 40, 41, 42, 43, 44, 45, 46, 47, 48, 49, 50, 51, 52, 53, 54, 55, 56, 57, 58, 59, 60, 61, 62, 63] (by decide +kernel) (by decide +kernel)
set_option maxRecDepth 20000 in
theorem gX1_walkBySteps_X1_walk : GoodIn wsX1_walkBySteps (wsV RX1 120 RX1 yX1_walk wsX1_walk) := goodIn_app (goodIn_of _ (by decide +kernel)) ggX1_walkBySteps_X1_walk
theorem dX1_walkBySteps_0 : decode cX1_walkBySteps 0 = .ok (.aload_n 0, 1) := by decide +kernel
theorem dX1_walkBySteps_1 : decode cX1_walkBySteps 1 = .ok (.iload_n 1, 1) := by decide +kernel
theorem dX1_walkBySteps_2 : decode cX1_walkBySteps 2 = .ok (.iload_n 2, 1) := by decide +kernel
theorem dX1_walkBySteps_3 : decode cX1_walkBySteps 3 = .ok (.iload_n 3, 1) := by decide +kernel
theorem dX1_walkBySteps_4 : decode cX1_walkBySteps 4 = .ok (.invokevirtual 120, 3) := by decide +kernel
theorem dX1_walkBySteps_7 : decode cX1_walkBySteps 7 = .ok (.ireturn, 1) := by decide +kernel
set_option maxRecDepth 20000 in
theorem ggX1_placeBehind_X1_isPlace : GoodIn wsX1_placeBehind wsX1_isPlace := goodIn_r _ [6, 7, 8, 5, 9] (by decide +kernel) (by decide +kernel)
set_option maxRecDepth 20000 in
theorem gX1_placeBehind_X1_isPlace : GoodIn wsX1_placeBehind (va_wsS RX1 49 yX1_isPlace wsX1_isPlace) := goodIn_app (goodIn_of _ (by decide +kernel)) ggX1_placeBehind_X1_isPlace
set_option maxRecDepth 20000 in
theorem ggX1_placeBehind_X1_isText : GoodIn wsX1_placeBehind wsX1_isText := goodIn_r _ [12, 7, 8, 5, 9, 13, 14, 15] (by decide +kernel) (by decide +kernel)
set_option maxRecDepth 20000 in
theorem gX1_placeBehind_X1_isText : GoodIn wsX1_placeBehind (va_wsS RX1 73 yX1_isText wsX1_isText) := goodIn_app (goodIn_of _ (by decide +kernel)) ggX1_placeBehind_X1_isText
set_option maxRecDepth 20000 in
theorem ggX1_placeBehind_X1_in : GoodIn wsX1_placeBehind wsX1_in := goodIn_r _ [9] (by decide +kernel) (by decide +kernel)
set_option maxRecDepth 20000 in
theorem gX1_placeBehind_X1_in : GoodIn wsX1_placeBehind (va_wsS RX1 45 yX1_in wsX1_in) := goodIn_app (goodIn_of _ (by decide +kernel)) ggX1_placeBehind_X1_in
set_option maxRecDepth 20000 in
theorem ggX1_placeBehind_X1_follows : GoodIn wsX1_placeBehind wsX1_follows := goodIn_r _ [19, 20, 21, 2, 22, 23, 24, 25, 26, 27, 28, 5, 29, 30, 31, 32, 33, 34, 35, 36, 37, 38, 39, 40, 41, 42, 43, 44, 45, 46, 47, 48, 49, 50, 51, 52, 53, 54, 55, 56, 57, 58, 59] (by decide +kernel) (by decide +kernel)
set_option maxRecDepth 20000 in
theorem gX1_placeBehind_X1_follows : GoodIn wsX1_placeBehind (wsV RX1 116 RX1 yX1_follows wsX1_follows) := goodIn_app (goodIn_of _ (by decide +kernel)) ggX1_placeBehind_X1_follows
theorem dX1_placeBehind_0 : decode cX1_placeBehind 0 = .ok (.aload_n 0, 1) := by decide +kernel
theorem dX1_placeBehind_1 : decode cX1_placeBehind 1 = .ok (.iload_n 1, 1) := by decide +kernel
theorem dX1_placeBehind_2 : decode cX1_placeBehind 2 = .ok (.invokestatic 49, 3) := by decide +kernel
theorem dX1_placeBehind_5 : decode cX1_placeBehind 5 = .ok (.ifCond .ne 7, 3) := by decide +kernel
theorem dX1_placeBehind_8 : decode cX1_placeBehind 8 = .ok (.iconst 1, 1) := by decide +kernel
theorem dX1_placeBehind_9 : decode cX1_placeBehind 9 = .ok (.goto 27, 3) := by decide +kernel
theorem dX1_placeBehind_12 : decode cX1_placeBehind 12 = .ok (.iload_n 2, 1) := by decide +kernel
theorem dX1_placeBehind_13 : decode cX1_placeBehind 13 = .ok (.iload_n 3, 1) := by decide +kernel
theorem dX1_placeBehind_14 : decode cX1_placeBehind 14 = .ok (.invokestatic 73, 3) := by decide +kernel
theorem dX1_placeBehind_17 : decode cX1_placeBehind 17 = .ok (.ifCond .eq 18, 3) := by decide +kernel
theorem dX1_placeBehind_20 : decode cX1_placeBehind 20 = .ok (.iload 4, 2) := by decide +kernel
theorem dX1_placeBehind_22 : decode cX1_placeBehind 22 = .ok (.iconst 0, 1) := by decide +kernel
theorem dX1_placeBehind_23 : decode cX1_placeBehind 23 = .ok (.bipush 30, 2) := by decide +kernel
theorem dX1_placeBehind_25 : decode cX1_placeBehind 25 = .ok (.invokestatic 45, 3) := by decide +kernel
theorem dX1_placeBehind_28 : decode cX1_placeBehind 28 = .ok (.ifCond .eq 7, 3) := by decide +kernel
theorem dX1_placeBehind_31 : decode cX1_placeBehind 31 = .ok (.iconst 0, 1) := by decide +kernel
theorem dX1_placeBehind_32 : decode cX1_placeBehind 32 = .ok (.goto 4, 3) := by decide +kernel
theorem dX1_placeBehind_35 : decode cX1_placeBehind 35 = .ok (.iconst 2, 1) := by decide +kernel
theorem dX1_placeBehind_36 : decode cX1_placeBehind 36 = .ok (.putfield 41, 3) := by decide +kernel
theorem dX1_placeBehind_39 : decode cX1_placeBehind 39 = .ok (.aload_n 0, 1) := by decide +kernel
theorem dX1_placeBehind_40 : decode cX1_placeBehind 40 = .ok (.getfield 41, 3) := by decide +kernel
theorem dX1_placeBehind_43 : decode cX1_placeBehind 43 = .ok (.ifCond .le 5, 3) := by decide +kernel
theorem dX1_placeBehind_46 : decode cX1_placeBehind 46 = .ok (.iconst 0, 1) := by decide +kernel
theorem dX1_placeBehind_47 : decode cX1_placeBehind 47 = .ok (.ireturn, 1) := by decide +kernel
theorem dX1_placeBehind_48 : decode cX1_placeBehind 48 = .ok (.aload_n 0, 1) := by decide +kernel
theorem dX1_placeBehind_49 : decode cX1_placeBehind 49 = .ok (.iload_n 1, 1) := by decide +kernel
theorem dX1_placeBehind_50 : decode cX1_placeBehind 50 = .ok (.iload_n 2, 1) := by decide +kernel
theorem dX1_placeBehind_51 : decode cX1_placeBehind 51 = .ok (.iload_n 3, 1) := by decide +kernel
theorem dX1_placeBehind_52 : decode cX1_placeBehind 52 = .ok (.iload 4, 2) := by decide +kernel
theorem dX1_placeBehind_54 : decode cX1_placeBehind 54 = .ok (.invokevirtual 116, 3) := by decide +kernel
theorem dX1_placeBehind_57 : decode cX1_placeBehind 57 = .ok (.aload_n 0, 1) := by decide +kernel
theorem dX1_placeBehind_58 : decode cX1_placeBehind 58 = .ok (.getfield 106, 3) := by decide +kernel
theorem dX1_placeBehind_61 : decode cX1_placeBehind 61 = .ok (.ireturn, 1) := by decide +kernel
end
section
theorem dJ6_bitCount_0f7a4_0 : decode cJ6_bitCount_0f7a4 0 = .ok (.iload_n 0, 1) := by decide +kernel
theorem dJ6_bitCount_0f7a4_1 : decode cJ6_bitCount_0f7a4 1 = .ok (.iload_n 0, 1) := by decide +kernel
theorem dJ6_bitCount_0f7a4_2 : decode cJ6_bitCount_0f7a4 2 = .ok (.iconst 1, 1) := by decide +kernel
theorem dJ6_bitCount_0f7a4_3 : decode cJ6_bitCount_0f7a4 3 = .ok (.iushr, 1) := by decide +kernel
theorem dJ6_bitCount_0f7a4_4 : decode cJ6_bitCount_0f7a4 4 = .ok (.ldc_w 265, 3) := by decide +kernel
theorem dJ6_bitCount_0f7a4_7 : decode cJ6_bitCount_0f7a4 7 = .ok (.iand, 1) := by decide +kernel
theorem dJ6_bitCount_0f7a4_8 : decode cJ6_bitCount_0f7a4 8 = .ok (.isub, 1) := by decide +kernel
theorem dJ6_bitCount_0f7a4_9 : decode cJ6_bitCount_0f7a4 9 = .ok (.istore_n 0, 1) := by decide +kernel
theorem dJ6_bitCount_0f7a4_10 : decode cJ6_bitCount_0f7a4 10 = .ok (.iload_n 0, 1) := by decide +kernel
theorem dJ6_bitCount_0f7a4_11 : decode cJ6_bitCount_0f7a4 11 = .ok (.ldc_w 266, 3) := by decide +kernel
theorem dJ6_bitCount_0f7a4_14 : decode cJ6_bitCount_0f7a4 14 = .ok (.iand, 1) := by decide +kernel
theorem dJ6_bitCount_0f7a4_15 : decode cJ6_bitCount_0f7a4 15 = .ok (.iload_n 0, 1) := by decide +kernel
theorem dJ6_bitCount_0f7a4_16 : decode cJ6_bitCount_0f7a4 16 = .ok (.iconst 2, 1) := by decide +kernel
theorem dJ6_bitCount_0f7a4_17 : decode cJ6_bitCount_0f7a4 17 = .ok (.iushr, 1) := by decide +kernel
theorem dJ6_bitCount_0f7a4_18 : decode cJ6_bitCount_0f7a4 18 = .ok (.ldc_w 266, 3) := by decide +kernel
theorem dJ6_bitCount_0f7a4_21 : decode cJ6_bitCount_0f7a4 21 = .ok (.iand, 1) := by decide +kernel
theorem dJ6_bitCount_0f7a4_22 : decode cJ6_bitCount_0f7a4 22 = .ok (.iadd, 1) := by decide +kernel
theorem dJ6_bitCount_0f7a4_23 : decode cJ6_bitCount_0f7a4 23 = .ok (.istore_n 0, 1) := by decide +kernel
theorem dJ6_bitCount_0f7a4_24 : decode cJ6_bitCount_0f7a4 24 = .ok (.iload_n 0, 1) := by decide +kernel
theorem dJ6_bitCount_0f7a4_25 : decode cJ6_bitCount_0f7a4 25 = .ok (.iload_n 0, 1) := by decide +kernel
theorem dJ6_bitCount_0f7a4_26 : decode cJ6_bitCount_0f7a4 26 = .ok (.iconst 4, 1) := by decide +kernel
theorem dJ6_bitCount_0f7a4_27 : decode cJ6_bitCount_0f7a4 27 = .ok (.iushr, 1) := by decide +kernel
theorem dJ6_bitCount_0f7a4_28 : decode cJ6_bitCount_0f7a4 28 = .ok (.iadd, 1) := by decide +kernel
theorem dJ6_bitCount_0f7a4_29 : decode cJ6_bitCount_0f7a4 29 = .ok (.ldc_w 267, 3) := by decide +kernel
theorem dJ6_bitCount_0f7a4_32 : decode cJ6_bitCount_0f7a4 32 = .ok (.iand, 1) := by decide +kernel
theorem dJ6_bitCount_0f7a4_33 : decode cJ6_bitCount_0f7a4 33 = .ok (.istore_n 0, 1) := by decide +kernel
theorem dJ6_bitCount_0f7a4_34 : decode cJ6_bitCount_0f7a4 34 = .ok (.iload_n 0, 1) := by decide +kernel
theorem dJ6_bitCount_0f7a4_35 : decode cJ6_bitCount_0f7a4 35 = .ok (.iload_n 0, 1) := by decide +kernel
theorem dJ6_bitCount_0f7a4_36 : decode cJ6_bitCount_0f7a4 36 = .ok (.bipush 8, 2) := by decide +kernel
theorem dJ6_bitCount_0f7a4_38 : decode cJ6_bitCount_0f7a4 38 = .ok (.iushr, 1) := by decide +kernel
theorem dJ6_bitCount_0f7a4_39 : decode cJ6_bitCount_0f7a4 39 = .ok (.iadd, 1) := by decide +kernel
theorem dJ6_bitCount_0f7a4_40 : decode cJ6_bitCount_0f7a4 40 = .ok (.istore_n 0, 1) := by decide +kernel
theorem dJ6_bitCount_0f7a4_41 : decode cJ6_bitCount_0f7a4 41 = .ok (.iload_n 0, 1) := by decide +kernel
theorem dJ6_bitCount_0f7a4_42 : decode cJ6_bitCount_0f7a4 42 = .ok (.iload_n 0, 1) := by decide +kernel
theorem dJ6_bitCount_0f7a4_43 : decode cJ6_bitCount_0f7a4 43 = .ok (.bipush 16, 2) := by decide +kernel
theorem dJ6_bitCount_0f7a4_45 : decode cJ6_bitCount_0f7a4 45 = .ok (.iushr, 1) := by decide +kernel
theorem dJ6_bitCount_0f7a4_46 : decode cJ6_bitCount_0f7a4 46 = .ok (.iadd, 1) := by decide +kernel
theorem dJ6_bitCount_0f7a4_47 : decode cJ6_bitCount_0f7a4 47 = .ok (.istore_n 0, 1) := by decide +kernel
theorem dJ6_bitCount_0f7a4_48 : decode cJ6_bitCount_0f7a4 48 = .ok (.iload_n 0, 1) := by decide +kernel
theorem dJ6_bitCount_0f7a4_49 : decode cJ6_bitCount_0f7a4 49 = .ok (.bipush 63, 2) := by decide +kernel
theorem dJ6_bitCount_0f7a4_51 : decode cJ6_bitCount_0f7a4 51 = .ok (.iand, 1) := by decide +kernel
theorem dJ6_bitCount_0f7a4_52 : decode cJ6_bitCount_0f7a4 52 = .ok (.ireturn, 1) := by decide +kernel
theorem dJ9_abs_0f7a4_0 : decode cJ9_abs_0f7a4 0 = .ok (.iload_n 0, 1) := by decide +kernel
theorem dJ9_abs_0f7a4_1 : decode cJ9_abs_0f7a4 1 = .ok (.ifCond .ge 8, 3) := by decide +kernel
theorem dJ9_abs_0f7a4_4 : decode cJ9_abs_0f7a4 4 = .ok (.iload_n 0, 1) := by decide +kernel
theorem dJ9_abs_0f7a4_5 : decode cJ9_abs_0f7a4 5 = .ok (.ineg, 1) := by decide +kernel
theorem dJ9_abs_0f7a4_6 : decode cJ9_abs_0f7a4 6 = .ok (.goto 4, 3) := by decide +kernel
theorem dJ9_abs_0f7a4_9 : decode cJ9_abs_0f7a4 9 = .ok (.iload_n 0, 1) := by decide +kernel
theorem dJ9_abs_0f7a4_10 : decode cJ9_abs_0f7a4 10 = .ok (.ireturn, 1) := by decide +kernel
theorem dJ9_max_7cf53_0 : decode cJ9_max_7cf53 0 = .ok (.iload_n 0, 1) := by decide +kernel
theorem dJ9_max_7cf53_1 : decode cJ9_max_7cf53 1 = .ok (.iload_n 1, 1) := by decide +kernel
theorem dJ9_max_7cf53_2 : decode cJ9_max_7cf53 2 = .ok (.if_icmp .lt 7, 3) := by decide +kernel
theorem dJ9_max_7cf53_5 : decode cJ9_max_7cf53 5 = .ok (.iload_n 0, 1) := by decide +kernel
theorem dJ9_max_7cf53_6 : decode cJ9_max_7cf53 6 = .ok (.goto 4, 3) := by decide +kernel
theorem dJ9_max_7cf53_9 : decode cJ9_max_7cf53 9 = .ok (.iload_n 1, 1) := by decide +kernel
theorem dJ9_max_7cf53_10 : decode cJ9_max_7cf53 10 = .ok (.ireturn, 1) := by decide +kernel
theorem dJ7_fill_53178_0 : decode cJ7_fill_53178 0 = .ok (.iconst 0, 1) := by decide +kernel
theorem dJ7_fill_53178_1 : decode cJ7_fill_53178 1 = .ok (.istore_n 2, 1) := by decide +kernel
theorem dJ7_fill_53178_2 : decode cJ7_fill_53178 2 = .ok (.aload_n 0, 1) := by decide +kernel
theorem dJ7_fill_53178_3 : decode cJ7_fill_53178 3 = .ok (.arraylength, 1) := by decide +kernel
theorem dJ7_fill_53178_4 : decode cJ7_fill_53178 4 = .ok (.istore_n 3, 1) := by decide +kernel
theorem dJ7_fill_53178_5 : decode cJ7_fill_53178 5 = .ok (.iload_n 2, 1) := by decide +kernel
theorem dJ7_fill_53178_6 : decode cJ7_fill_53178 6 = .ok (.iload_n 3, 1) := by decide +kernel
theorem dJ7_fill_53178_7 : decode cJ7_fill_53178 7 = .ok (.if_icmp .ge 13, 3) := by decide +kernel
theorem dJ7_fill_53178_10 : decode cJ7_fill_53178 10 = .ok (.aload_n 0, 1) := by decide +kernel
theorem dJ7_fill_53178_11 : decode cJ7_fill_53178 11 = .ok (.iload_n 2, 1) := by decide +kernel
theorem dJ7_fill_53178_12 : decode cJ7_fill_53178 12 = .ok (.iload_n 1, 1) := by decide +kernel
theorem dJ7_fill_53178_13 : decode cJ7_fill_53178 13 = .ok (.iastore, 1) := by decide +kernel
theorem dJ7_fill_53178_14 : decode cJ7_fill_53178 14 = .ok (.iinc 2 1, 3) := by decide +kernel
theorem dJ7_fill_53178_17 : decode cJ7_fill_53178 17 = .ok (.goto (-12), 3) := by decide +kernel
theorem dJ7_fill_53178_20 : decode cJ7_fill_53178 20 = .ok (.return_, 1) := by decide +kernel
set_option maxRecDepth 20000 in
theorem ggL_stroke_X0_stroke : GoodIn wsL_stroke wsX0_stroke := goodIn_ca (goodIn_ca (goodIn_r _ [7, 8, 9, 10, 6, 11, 12, 13, 14, 15, 16, 17, 18, 19, 20, 21, 22, 23, 24, 25, 26, 27, 28, 29, 30, 31, 32, 33, 34, 35, 36, 37, 38, 39, 40, 41, 42, 43, 44, 45, 46, 47, 48, 49, 50, 51, 52, 53, 54, 55, 56, 57, 58, 59] (by decide +kernel) (by decide +kernel)) (goodIn_sub (fun _ h => List.mem_cons_of_mem _ (List.mem_append_left _ (List.mem_append_right _ h))) (by decide +kernel))) (goodIn_sub (fun _ h => List.mem_cons_of_mem _ (List.mem_append_right _ h)) (by decide +kernel))
set_option maxRecDepth 20000 in
theorem gL_stroke_X0_stroke : GoodIn wsL_stroke (wsV RL 7 RX0 yX0_stroke wsX0_stroke) := goodIn_app (goodIn_of _ (by decide +kernel)) ggL_stroke_X0_stroke
theorem dL_stroke_0 : decode cL_stroke 0 = .ok (.aload 7, 2) := by decide +kernel
theorem dL_stroke_2 : decode cL_stroke 2 = .ok (.iconst 0, 1) := by decide +kernel
theorem dL_stroke_3 : decode cL_stroke 3 = .ok (.aload_n 0, 1) := by decide +kernel
theorem dL_stroke_4 : decode cL_stroke 4 = .ok (.iload_n 1, 1) := by decide +kernel
theorem dL_stroke_5 : decode cL_stroke 5 = .ok (.iload_n 2, 1) := by decide +kernel
theorem dL_stroke_6 : decode cL_stroke 6 = .ok (.iload_n 3, 1) := by decide +kernel
theorem dL_stroke_7 : decode cL_stroke 7 = .ok (.iload 4, 2) := by decide +kernel
theorem dL_stroke_9 : decode cL_stroke 9 = .ok (.iload 5, 2) := by decide +kernel
theorem dL_stroke_11 : decode cL_stroke 11 = .ok (.iload 6, 2) := by decide +kernel
theorem dL_stroke_13 : decode cL_stroke 13 = .ok (.invokevirtual 7, 3) := by decide +kernel
theorem dL_stroke_16 : decode cL_stroke 16 = .ok (.i2l, 1) := by decide +kernel
theorem dL_stroke_17 : decode cL_stroke 17 = .ok (.lastore, 1) := by decide +kernel
theorem dL_stroke_18 : decode cL_stroke 18 = .ok (.goto 11, 3) := by decide +kernel
theorem dL_stroke_21 : decode cL_stroke 21 = .ok (.astore 8, 2) := by decide +kernel
theorem dL_stroke_23 : decode cL_stroke 23 = .ok (.iconst 1, 1) := by decide +kernel
theorem dL_stroke_24 : decode cL_stroke 24 = .ok (.ireturn, 1) := by decide +kernel
theorem dL_stroke_25 : decode cL_stroke 25 = .ok (.astore 8, 2) := by decide +kernel
theorem dL_stroke_27 : decode cL_stroke 27 = .ok (.iconst 2, 1) := by decide +kernel
theorem dL_stroke_28 : decode cL_stroke 28 = .ok (.ireturn, 1) := by decide +kernel
theorem dL_stroke_29 : decode cL_stroke 29 = .ok (.iconst 0, 1) := by decide +kernel
theorem dL_stroke_30 : decode cL_stroke 30 = .ok (.ireturn, 1) := by decide +kernel
set_option maxRecDepth 20000 in
theorem ggL_difference_X0_difference : GoodIn wsL_difference wsX0_difference := goodIn_ca (goodIn_r _ [6, 7, 8, 9, 5, 10, 11, 12, 13, 14, 15, 16, 17, 18, 19, 20, 21, 22, 23, 24, 25, 26, 27, 28, 29, 30, 31, 32] (by decide +kernel) (by decide +kernel)) (goodIn_sub (fun _ h => List.mem_cons_of_mem _ (List.mem_append_right _ h)) (by decide +kernel))
set_option maxRecDepth 20000 in
theorem gL_difference_X0_difference : GoodIn wsL_difference (wsV RL 17 RX0 yX0_difference wsX0_difference) := goodIn_app (goodIn_of _ (by decide +kernel)) ggL_difference_X0_difference
theorem dL_difference_0 : decode cL_difference 0 = .ok (.aload_n 3, 1) := by decide +kernel
theorem dL_difference_1 : decode cL_difference 1 = .ok (.iconst 0, 1) := by decide +kernel
theorem dL_difference_2 : decode cL_difference 2 = .ok (.aload_n 0, 1) := by decide +kernel
theorem dL_difference_3 : decode cL_difference 3 = .ok (.iload_n 1, 1) := by decide +kernel
theorem dL_difference_4 : decode cL_difference 4 = .ok (.iload_n 2, 1) := by decide +kernel
theorem dL_difference_5 : decode cL_difference 5 = .ok (.invokevirtual 17, 3) := by decide +kernel
theorem dL_difference_8 : decode cL_difference 8 = .ok (.i2l, 1) := by decide +kernel
theorem dL_difference_9 : decode cL_difference 9 = .ok (.lastore, 1) := by decide +kernel
theorem dL_difference_10 : decode cL_difference 10 = .ok (.goto 7, 3) := by decide +kernel
theorem dL_difference_13 : decode cL_difference 13 = .ok (.astore 4, 2) := by decide +kernel
theorem dL_difference_15 : decode cL_difference 15 = .ok (.iconst 1, 1) := by decide +kernel
theorem dL_difference_16 : decode cL_difference 16 = .ok (.ireturn, 1) := by decide +kernel
theorem dL_difference_17 : decode cL_difference 17 = .ok (.iconst 0, 1) := by decide +kernel
theorem dL_difference_18 : decode cL_difference 18 = .ok (.ireturn, 1) := by decide +kernel
set_option maxRecDepth 20000 in
theorem ggL_width_X0_width : GoodIn wsL_width wsX0_width := goodIn_ca (goodIn_r _ [6, 7, 8, 9, 5, 10, 11, 12, 13, 14, 15, 16, 17, 18, 19, 20, 21, 22, 23, 24, 25, 26, 27, 28, 29, 30, 31, 32, 33, 34, 35, 36, 37, 38, 39, 40, 41] (by decide +kernel) (by decide +kernel)) (goodIn_sub (fun _ h => List.mem_cons_of_mem _ (List.mem_append_right _ h)) (by decide +kernel))
set_option maxRecDepth 20000 in
theorem gL_width_X0_width : GoodIn wsL_width (wsV RL 21 RX0 yX0_width wsX0_width) := goodIn_app (goodIn_of _ (by decide +kernel)) ggL_width_X0_width
theorem dL_width_0 : decode cL_width 0 = .ok (.aload_n 2, 1) := by decide +kernel
theorem dL_width_1 : decode cL_width 1 = .ok (.iconst 0, 1) := by decide +kernel
theorem dL_width_2 : decode cL_width 2 = .ok (.aload_n 0, 1) := by decide +kernel
theorem dL_width_3 : decode cL_width 3 = .ok (.iload_n 1, 1) := by decide +kernel
theorem dL_width_4 : decode cL_width 4 = .ok (.invokevirtual 21, 3) := by decide +kernel
theorem dL_width_7 : decode cL_width 7 = .ok (.i2l, 1) := by decide +kernel
theorem dL_width_8 : decode cL_width 8 = .ok (.lastore, 1) := by decide +kernel
theorem dL_width_9 : decode cL_width 9 = .ok (.goto 6, 3) := by decide +kernel
theorem dL_width_12 : decode cL_width 12 = .ok (.astore_n 3, 1) := by decide +kernel
theorem dL_width_13 : decode cL_width 13 = .ok (.iconst 1, 1) := by decide +kernel
theorem dL_width_14 : decode cL_width 14 = .ok (.ireturn, 1) := by decide +kernel
theorem dL_width_15 : decode cL_width 15 = .ok (.iconst 0, 1) := by decide +kernel
theorem dL_width_16 : decode cL_width 16 = .ok (.ireturn, 1) := by decide +kernel
set_option maxRecDepth 20000 in
theorem ggL_space_X0_space : GoodIn wsL_space wsX0_space := goodIn_ca (goodIn_ca (goodIn_r _ [7, 8, 9, 10, 11, 12, 6, 13, 14, 15, 16, 17, 18, 19, 20, 21, 22, 23, 24, 25, 26, 27, 28] (by decide +kernel) (by decide +kernel)) (goodIn_sub (fun _ h => List.mem_cons_of_mem _ (List.mem_append_left _ (List.mem_append_right _ h))) (by decide +kernel))) (goodIn_sub (fun _ h => List.mem_cons_of_mem _ (List.mem_append_right _ h)) (by decide +kernel))
set_option maxRecDepth 20000 in
theorem gL_space_X0_space : GoodIn wsL_space (wsV RL 25 RX0 yX0_space wsX0_space) := goodIn_app (goodIn_of _ (by decide +kernel)) ggL_space_X0_space
theorem dL_space_0 : decode cL_space 0 = .ok (.aload 4, 2) := by decide +kernel
theorem dL_space_2 : decode cL_space 2 = .ok (.iconst 0, 1) := by decide +kernel
theorem dL_space_3 : decode cL_space 3 = .ok (.aload_n 0, 1) := by decide +kernel
theorem dL_space_4 : decode cL_space 4 = .ok (.iload_n 1, 1) := by decide +kernel
theorem dL_space_5 : decode cL_space 5 = .ok (.iload_n 2, 1) := by decide +kernel
theorem dL_space_6 : decode cL_space 6 = .ok (.iload_n 3, 1) := by decide +kernel
theorem dL_space_7 : decode cL_space 7 = .ok (.invokevirtual 25, 3) := by decide +kernel
theorem dL_space_10 : decode cL_space 10 = .ok (.i2l, 1) := by decide +kernel
theorem dL_space_11 : decode cL_space 11 = .ok (.lastore, 1) := by decide +kernel
theorem dL_space_12 : decode cL_space 12 = .ok (.goto 11, 3) := by decide +kernel
theorem dL_space_15 : decode cL_space 15 = .ok (.astore 5, 2) := by decide +kernel
theorem dL_space_17 : decode cL_space 17 = .ok (.iconst 1, 1) := by decide +kernel
theorem dL_space_18 : decode cL_space 18 = .ok (.ireturn, 1) := by decide +kernel
theorem dL_space_19 : decode cL_space 19 = .ok (.astore 5, 2) := by decide +kernel
theorem dL_space_21 : decode cL_space 21 = .ok (.iconst 2, 1) := by decide +kernel
theorem dL_space_22 : decode cL_space 22 = .ok (.ireturn, 1) := by decide +kernel
theorem dL_space_23 : decode cL_space 23 = .ok (.iconst 0, 1) := by decide +kernel
theorem dL_space_24 : decode cL_space 24 = .ok (.ireturn, 1) := by decide +kernel
set_option maxRecDepth 20000 in
theorem ggL_lead_X0_lead : GoodIn wsL_lead wsX0_lead := goodIn_ca (goodIn_r _ [6, 7, 8, 9, 5, 10, 11, 12, 13, 14, 15, 16, 17, 18, 19, 20, 21, 22, 23, 24, 25, 26, 27, 28, 29, 30, 31, 32, 33] (by decide +kernel) (by decide +kernel)) (goodIn_sub (fun _ h => List.mem_cons_of_mem _ (List.mem_append_right _ h)) (by decide +kernel))
set_option maxRecDepth 20000 in
theorem gL_lead_X0_lead : GoodIn wsL_lead (wsV RL 29 RX0 yX0_lead wsX0_lead) := goodIn_app (goodIn_of _ (by decide +kernel)) ggL_lead_X0_lead
theorem dL_lead_0 : decode cL_lead 0 = .ok (.aload 4, 2) := by decide +kernel
theorem dL_lead_2 : decode cL_lead 2 = .ok (.iconst 0, 1) := by decide +kernel
theorem dL_lead_3 : decode cL_lead 3 = .ok (.aload_n 0, 1) := by decide +kernel
theorem dL_lead_4 : decode cL_lead 4 = .ok (.iload_n 1, 1) := by decide +kernel
theorem dL_lead_5 : decode cL_lead 5 = .ok (.iload_n 2, 1) := by decide +kernel
theorem dL_lead_6 : decode cL_lead 6 = .ok (.iload_n 3, 1) := by decide +kernel
theorem dL_lead_7 : decode cL_lead 7 = .ok (.invokevirtual 29, 3) := by decide +kernel
theorem dL_lead_10 : decode cL_lead 10 = .ok (.i2l, 1) := by decide +kernel
theorem dL_lead_11 : decode cL_lead 11 = .ok (.lastore, 1) := by decide +kernel
theorem dL_lead_12 : decode cL_lead 12 = .ok (.goto 7, 3) := by decide +kernel
theorem dL_lead_15 : decode cL_lead 15 = .ok (.astore 5, 2) := by decide +kernel
theorem dL_lead_17 : decode cL_lead 17 = .ok (.iconst 1, 1) := by decide +kernel
theorem dL_lead_18 : decode cL_lead 18 = .ok (.ireturn, 1) := by decide +kernel
theorem dL_lead_19 : decode cL_lead 19 = .ok (.iconst 0, 1) := by decide +kernel
theorem dL_lead_20 : decode cL_lead 20 = .ok (.ireturn, 1) := by decide +kernel
set_option maxRecDepth 20000 in
theorem ggL_name_X0_name : GoodIn wsL_name wsX0_name := goodIn_ca (goodIn_ca (goodIn_r _ [7, 8, 9, 10, 6, 11, 12, 13, 14, 15, 16, 17, 18, 19, 20, 21, 22, 23, 24, 25, 26, 27, 28, 29, 30, 31, 32, 33, 34, 35, 36] (by decide +kernel) (by decide +kernel)) (goodIn_sub (fun _ h => List.mem_cons_of_mem _ (List.mem_append_left _ (List.mem_append_right _ h))) (by decide +kernel))) (goodIn_sub (fun _ h => List.mem_cons_of_mem _ (List.mem_append_right _ h)) (by decide +kernel))
set_option maxRecDepth 20000 in
theorem gL_name_X0_name : GoodIn wsL_name (wsV RL 32 RX0 yX0_name wsX0_name) := goodIn_app (goodIn_of _ (by decide +kernel)) ggL_name_X0_name
theorem dL_name_0 : decode cL_name 0 = .ok (.aload_n 0, 1) := by decide +kernel
theorem dL_name_1 : decode cL_name 1 = .ok (.iload_n 1, 1) := by decide +kernel
theorem dL_name_2 : decode cL_name 2 = .ok (.iload_n 2, 1) := by decide +kernel
theorem dL_name_3 : decode cL_name 3 = .ok (.iload_n 3, 1) := by decide +kernel
theorem dL_name_4 : decode cL_name 4 = .ok (.invokevirtual 32, 3) := by decide +kernel
theorem dL_name_7 : decode cL_name 7 = .ok (.goto 11, 3) := by decide +kernel
theorem dL_name_10 : decode cL_name 10 = .ok (.astore 4, 2) := by decide +kernel
theorem dL_name_12 : decode cL_name 12 = .ok (.iconst 1, 1) := by decide +kernel
theorem dL_name_13 : decode cL_name 13 = .ok (.ireturn, 1) := by decide +kernel
theorem dL_name_14 : decode cL_name 14 = .ok (.astore 4, 2) := by decide +kernel
theorem dL_name_16 : decode cL_name 16 = .ok (.iconst 2, 1) := by decide +kernel
theorem dL_name_17 : decode cL_name 17 = .ok (.ireturn, 1) := by decide +kernel
theorem dL_name_18 : decode cL_name 18 = .ok (.iconst 0, 1) := by decide +kernel
theorem dL_name_19 : decode cL_name 19 = .ok (.ireturn, 1) := by decide +kernel
set_option maxRecDepth 20000 in
theorem ggL_textWidth_X0_textWidth : GoodIn wsL_textWidth wsX0_textWidth := goodIn_ca (goodIn_r _ [6, 7, 8, 5, 9, 10, 11, 12, 13, 14, 15, 16, 17, 18, 19, 20, 21, 22, 23, 24, 25, 26, 27, 28, 29, 30, 31, 32, 33, 34, 35, 36, 37, 38, 39, 40, 41, 42, 43, 44, 45, 46, 47, 48, 49, 50, 51, 52, 53, 54, 55, 56, 57, 58] (by decide +kernel) (by decide +kernel)) (goodIn_sub (fun _ h => List.mem_cons_of_mem _ (List.mem_append_right _ h)) (by decide +kernel))
set_option maxRecDepth 20000 in
theorem gL_textWidth_X0_textWidth : GoodIn wsL_textWidth (wsV RL 36 RX0 yX0_textWidth wsX0_textWidth) := goodIn_app (goodIn_of _ (by decide +kernel)) ggL_textWidth_X0_textWidth
theorem dL_textWidth_0 : decode cL_textWidth 0 = .ok (.aload_n 3, 1) := by decide +kernel
theorem dL_textWidth_1 : decode cL_textWidth 1 = .ok (.iconst 0, 1) := by decide +kernel
theorem dL_textWidth_2 : decode cL_textWidth 2 = .ok (.aload_n 0, 1) := by decide +kernel
theorem dL_textWidth_3 : decode cL_textWidth 3 = .ok (.iload_n 1, 1) := by decide +kernel
theorem dL_textWidth_4 : decode cL_textWidth 4 = .ok (.iload_n 2, 1) := by decide +kernel
theorem dL_textWidth_5 : decode cL_textWidth 5 = .ok (.invokevirtual 36, 3) := by decide +kernel
theorem dL_textWidth_8 : decode cL_textWidth 8 = .ok (.i2l, 1) := by decide +kernel
theorem dL_textWidth_9 : decode cL_textWidth 9 = .ok (.lastore, 1) := by decide +kernel
theorem dL_textWidth_10 : decode cL_textWidth 10 = .ok (.goto 7, 3) := by decide +kernel
theorem dL_textWidth_13 : decode cL_textWidth 13 = .ok (.astore 4, 2) := by decide +kernel
theorem dL_textWidth_15 : decode cL_textWidth 15 = .ok (.iconst 1, 1) := by decide +kernel
theorem dL_textWidth_16 : decode cL_textWidth 16 = .ok (.ireturn, 1) := by decide +kernel
theorem dL_textWidth_17 : decode cL_textWidth 17 = .ok (.iconst 0, 1) := by decide +kernel
theorem dL_textWidth_18 : decode cL_textWidth 18 = .ok (.ireturn, 1) := by decide +kernel
set_option maxRecDepth 20000 in
theorem ggL_cut_X0_cut : GoodIn wsL_cut wsX0_cut := goodIn_ca (goodIn_ca (goodIn_ca (goodIn_r _ [8, 9, 10, 11, 12, 13, 14, 15, 16, 7, 17, 18, 19, 20, 21, 22, 23, 24, 25, 26, 27, 28, 29, 30, 31, 32, 33, 34, 35, 36, 37, 38, 39, 40, 41, 42, 43, 44, 45, 46, 47, 48, 49, 50, 51, 52, 53, 54, 55, 56, 57, 58, 59, 60, 61, 62, 63, 64, 65, 66, 67, 68, 69, 70, 71, 72, 73, 74, 75, 76, 77, 78, 79, 80, 81, 82, 83, 84, 85, 86, 87, 88, 89, 90] (by decide +kernel) (by decide +kernel)) (goodIn_sub (fun _ h => List.mem_cons_of_mem _ (List.mem_append_left _ (List.mem_append_left _ (List.mem_append_right _ h)))) (by decide +kernel))) (goodIn_sub (fun _ h => List.mem_cons_of_mem _ (List.mem_append_left _ (List.mem_append_right _ h))) (by decide +kernel))) (goodIn_sub (fun _ h => List.mem_cons_of_mem _ (List.mem_append_right _ h)) (by decide +kernel))
set_option maxRecDepth 20000 in
theorem gL_cut_X0_cut : GoodIn wsL_cut (wsV RL 39 RX0 yX0_cut wsX0_cut) := goodIn_app (goodIn_of _ (by decide +kernel)) ggL_cut_X0_cut
theorem dL_cut_0 : decode cL_cut 0 = .ok (.aload 6, 2) := by decide +kernel
theorem dL_cut_2 : decode cL_cut 2 = .ok (.iconst 0, 1) := by decide +kernel
theorem dL_cut_3 : decode cL_cut 3 = .ok (.aload_n 0, 1) := by decide +kernel
theorem dL_cut_4 : decode cL_cut 4 = .ok (.iload_n 1, 1) := by decide +kernel
theorem dL_cut_5 : decode cL_cut 5 = .ok (.iload_n 2, 1) := by decide +kernel
theorem dL_cut_6 : decode cL_cut 6 = .ok (.iload_n 3, 1) := by decide +kernel
theorem dL_cut_7 : decode cL_cut 7 = .ok (.iload 4, 2) := by decide +kernel
theorem dL_cut_9 : decode cL_cut 9 = .ok (.iload 5, 2) := by decide +kernel
theorem dL_cut_11 : decode cL_cut 11 = .ok (.invokevirtual 39, 3) := by decide +kernel
theorem dL_cut_14 : decode cL_cut 14 = .ok (.i2l, 1) := by decide +kernel
theorem dL_cut_15 : decode cL_cut 15 = .ok (.lastore, 1) := by decide +kernel
theorem dL_cut_16 : decode cL_cut 16 = .ok (.goto 15, 3) := by decide +kernel
theorem dL_cut_19 : decode cL_cut 19 = .ok (.astore 7, 2) := by decide +kernel
theorem dL_cut_21 : decode cL_cut 21 = .ok (.iconst 1, 1) := by decide +kernel
theorem dL_cut_22 : decode cL_cut 22 = .ok (.ireturn, 1) := by decide +kernel
theorem dL_cut_23 : decode cL_cut 23 = .ok (.astore 7, 2) := by decide +kernel
theorem dL_cut_25 : decode cL_cut 25 = .ok (.iconst 2, 1) := by decide +kernel
theorem dL_cut_26 : decode cL_cut 26 = .ok (.ireturn, 1) := by decide +kernel
theorem dL_cut_27 : decode cL_cut 27 = .ok (.astore 7, 2) := by decide +kernel
theorem dL_cut_29 : decode cL_cut 29 = .ok (.iconst 3, 1) := by decide +kernel
theorem dL_cut_30 : decode cL_cut 30 = .ok (.ireturn, 1) := by decide +kernel
theorem dL_cut_31 : decode cL_cut 31 = .ok (.iconst 0, 1) := by decide +kernel
theorem dL_cut_32 : decode cL_cut 32 = .ok (.ireturn, 1) := by decide +kernel
set_option maxRecDepth 20000 in
theorem ggL_remove_X0_remove : GoodIn wsL_remove wsX0_remove := goodIn_ca (goodIn_r _ [6, 7, 8, 9, 5, 10, 11, 12, 13, 14, 15, 16, 17, 18, 19, 20, 21, 22, 23, 24, 25, 26, 27, 28, 29, 30, 31, 32, 33] (by decide +kernel) (by decide +kernel)) (goodIn_sub (fun _ h => List.mem_cons_of_mem _ (List.mem_append_right _ h)) (by decide +kernel))
set_option maxRecDepth 20000 in
theorem gL_remove_X0_remove : GoodIn wsL_remove (wsV RL 45 RX0 yX0_remove wsX0_remove) := goodIn_app (goodIn_of _ (by decide +kernel)) ggL_remove_X0_remove
theorem dL_remove_0 : decode cL_remove 0 = .ok (.aload_n 3, 1) := by decide +kernel
theorem dL_remove_1 : decode cL_remove 1 = .ok (.iconst 0, 1) := by decide +kernel
theorem dL_remove_2 : decode cL_remove 2 = .ok (.aload_n 0, 1) := by decide +kernel
theorem dL_remove_3 : decode cL_remove 3 = .ok (.iload_n 1, 1) := by decide +kernel
theorem dL_remove_4 : decode cL_remove 4 = .ok (.iload_n 2, 1) := by decide +kernel
theorem dL_remove_5 : decode cL_remove 5 = .ok (.invokevirtual 45, 3) := by decide +kernel
theorem dL_remove_8 : decode cL_remove 8 = .ok (.ifCond .eq 7, 3) := by decide +kernel
theorem dL_remove_11 : decode cL_remove 11 = .ok (.lconst 1, 1) := by decide +kernel
theorem dL_remove_12 : decode cL_remove 12 = .ok (.goto 4, 3) := by decide +kernel
theorem dL_remove_15 : decode cL_remove 15 = .ok (.lconst 0, 1) := by decide +kernel
theorem dL_remove_16 : decode cL_remove 16 = .ok (.lastore, 1) := by decide +kernel
theorem dL_remove_17 : decode cL_remove 17 = .ok (.goto 7, 3) := by decide +kernel
theorem dL_remove_20 : decode cL_remove 20 = .ok (.astore 4, 2) := by decide +kernel
theorem dL_remove_22 : decode cL_remove 22 = .ok (.iconst 1, 1) := by decide +kernel
theorem dL_remove_23 : decode cL_remove 23 = .ok (.ireturn, 1) := by decide +kernel
theorem dL_remove_24 : decode cL_remove 24 = .ok (.iconst 0, 1) := by decide +kernel
theorem dL_remove_25 : decode cL_remove 25 = .ok (.ireturn, 1) := by decide +kernel
set_option maxRecDepth 20000 in
theorem ggL_isOld_X0_isOld : GoodIn wsL_isOld wsX0_isOld := goodIn_ca (goodIn_r _ [6, 7, 8, 5, 9, 10, 11, 12, 13, 14, 15, 16, 17, 18, 19, 20, 21, 22, 23, 24, 25, 26, 27, 28, 29, 30, 31, 32, 33, 34, 35, 36, 37, 38, 39, 40] (by decide +kernel) (by decide +kernel)) (goodIn_sub (fun _ h => List.mem_cons_of_mem _ (List.mem_append_right _ h)) (by decide +kernel))
set_option maxRecDepth 20000 in
theorem gL_isOld_X0_isOld : GoodIn wsL_isOld (wsV RL 49 RX0 yX0_isOld wsX0_isOld) := goodIn_app (goodIn_of _ (by decide +kernel)) ggL_isOld_X0_isOld
theorem dL_isOld_0 : decode cL_isOld 0 = .ok (.aload_n 3, 1) := by decide +kernel
theorem dL_isOld_1 : decode cL_isOld 1 = .ok (.iconst 0, 1) := by decide +kernel
theorem dL_isOld_2 : decode cL_isOld 2 = .ok (.aload_n 0, 1) := by decide +kernel
theorem dL_isOld_3 : decode cL_isOld 3 = .ok (.iload_n 1, 1) := by decide +kernel
theorem dL_isOld_4 : decode cL_isOld 4 = .ok (.iload_n 2, 1) := by decide +kernel
theorem dL_isOld_5 : decode cL_isOld 5 = .ok (.invokevirtual 49, 3) := by decide +kernel
theorem dL_isOld_8 : decode cL_isOld 8 = .ok (.ifCond .eq 7, 3) := by decide +kernel
theorem dL_isOld_11 : decode cL_isOld 11 = .ok (.lconst 1, 1) := by decide +kernel
theorem dL_isOld_12 : decode cL_isOld 12 = .ok (.goto 4, 3) := by decide +kernel
theorem dL_isOld_15 : decode cL_isOld 15 = .ok (.lconst 0, 1) := by decide +kernel
theorem dL_isOld_16 : decode cL_isOld 16 = .ok (.lastore, 1) := by decide +kernel
theorem dL_isOld_17 : decode cL_isOld 17 = .ok (.goto 7, 3) := by decide +kernel
theorem dL_isOld_20 : decode cL_isOld 20 = .ok (.astore 4, 2) := by decide +kernel
theorem dL_isOld_22 : decode cL_isOld 22 = .ok (.iconst 1, 1) := by decide +kernel
theorem dL_isOld_23 : decode cL_isOld 23 = .ok (.ireturn, 1) := by decide +kernel
theorem dL_isOld_24 : decode cL_isOld 24 = .ok (.iconst 0, 1) := by decide +kernel
theorem dL_isOld_25 : decode cL_isOld 25 = .ok (.ireturn, 1) := by decide +kernel
set_option maxRecDepth 20000 in
theorem ggL_remake_X0_remake : GoodIn wsL_remake wsX0_remake := goodIn_ca (goodIn_r _ [6, 7, 8, 9, 10, 5, 11, 12, 13, 14, 15, 16, 17, 18, 19, 20, 21, 22, 23, 24, 25, 26, 27, 28, 29, 30, 31, 32, 33, 34, 35, 36, 37, 38, 39, 40, 41, 42, 43, 44, 45, 46, 47, 48, 49, 50, 51, 52, 53, 54, 55, 56, 57, 58, 59, 60, 61, 62, 63, 64, 65, 66, 67, 68, 69, 70, 71, 72, 73, 74, 75, 76] (by decide +kernel) (by decide +kernel)) (goodIn_sub (fun _ h => List.mem_cons_of_mem _ (List.mem_append_right _ h)) (by decide +kernel))
set_option maxRecDepth 20000 in
theorem gL_remake_X0_remake : GoodIn wsL_remake (wsV RL 52 RX0 yX0_remake wsX0_remake) := goodIn_app (goodIn_of _ (by decide +kernel)) ggL_remake_X0_remake
theorem dL_remake_0 : decode cL_remake 0 = .ok (.aload_n 1, 1) := by decide +kernel
theorem dL_remake_1 : decode cL_remake 1 = .ok (.iconst 0, 1) := by decide +kernel
theorem dL_remake_2 : decode cL_remake 2 = .ok (.aload_n 0, 1) := by decide +kernel
theorem dL_remake_3 : decode cL_remake 3 = .ok (.invokevirtual 52, 3) := by decide +kernel
theorem dL_remake_6 : decode cL_remake 6 = .ok (.i2l, 1) := by decide +kernel
theorem dL_remake_7 : decode cL_remake 7 = .ok (.lastore, 1) := by decide +kernel
theorem dL_remake_8 : decode cL_remake 8 = .ok (.goto 6, 3) := by decide +kernel
theorem dL_remake_11 : decode cL_remake 11 = .ok (.astore_n 2, 1) := by decide +kernel
theorem dL_remake_12 : decode cL_remake 12 = .ok (.iconst 1, 1) := by decide +kernel
theorem dL_remake_13 : decode cL_remake 13 = .ok (.ireturn, 1) := by decide +kernel
theorem dL_remake_14 : decode cL_remake 14 = .ok (.iconst 0, 1) := by decide +kernel
theorem dL_remake_15 : decode cL_remake 15 = .ok (.ireturn, 1) := by decide +kernel
set_option maxRecDepth 20000 in
theorem ggL_read_X0_read : GoodIn wsL_read wsX0_read := goodIn_ca (goodIn_r _ [6, 7, 8, 9, 5, 10, 11, 12, 13, 14, 15, 16, 17, 18, 19, 20, 21, 22, 23, 24, 25, 26, 27, 28, 29, 30, 31, 32, 33, 34, 35, 36, 37, 38, 39, 40, 41, 42, 43, 44, 45, 46, 47, 48, 49, 50, 51, 52, 53, 54, 55, 56, 57, 58, 59, 60, 61, 62] (by decide +kernel) (by decide +kernel)) (goodIn_sub (fun _ h => List.mem_cons_of_mem _ (List.mem_append_right _ h)) (by decide +kernel))
set_option maxRecDepth 20000 in
theorem gL_read_X0_read : GoodIn wsL_read (wsV RL 56 RX0 yX0_read wsX0_read) := goodIn_app (goodIn_of _ (by decide +kernel)) ggL_read_X0_read
theorem dL_read_0 : decode cL_read 0 = .ok (.aload_n 3, 1) := by decide +kernel
theorem dL_read_1 : decode cL_read 1 = .ok (.iconst 0, 1) := by decide +kernel
theorem dL_read_2 : decode cL_read 2 = .ok (.aload_n 0, 1) := by decide +kernel
theorem dL_read_3 : decode cL_read 3 = .ok (.iload_n 1, 1) := by decide +kernel
theorem dL_read_4 : decode cL_read 4 = .ok (.iload_n 2, 1) := by decide +kernel
theorem dL_read_5 : decode cL_read 5 = .ok (.invokevirtual 56, 3) := by decide +kernel
theorem dL_read_8 : decode cL_read 8 = .ok (.i2l, 1) := by decide +kernel
theorem dL_read_9 : decode cL_read 9 = .ok (.lastore, 1) := by decide +kernel
theorem dL_read_10 : decode cL_read 10 = .ok (.goto 7, 3) := by decide +kernel
theorem dL_read_13 : decode cL_read 13 = .ok (.astore 4, 2) := by decide +kernel
theorem dL_read_15 : decode cL_read 15 = .ok (.iconst 1, 1) := by decide +kernel
theorem dL_read_16 : decode cL_read 16 = .ok (.ireturn, 1) := by decide +kernel
theorem dL_read_17 : decode cL_read 17 = .ok (.iconst 0, 1) := by decide +kernel
theorem dL_read_18 : decode cL_read 18 = .ok (.ireturn, 1) := by decide +kernel
set_option maxRecDepth 20000 in
theorem ggL_walk_X0_walk : GoodIn wsL_walk wsX0_walk := goodIn_ca (goodIn_ca (goodIn_r _ [7, 8, 9, 10, 11, 6, 12, 13, 14, 15, 16, 17, 18, 19, 20, 21, 22, 23, 24, 25, 26, 27, 28, 29, 30, 31, 32, 33, 34, 35, 36, 37, 38, 39, 40, 41, 42, 43, 44, 45, 46, 47, 48, 49, 50, 51, 52, 53, 54, 55, 56, 57, 58, 59, 60, 61, 62, 63, 64, 65, 66, 67, 68, 69, 70, 71, 72, 73, 74, 75, 76, 77, 78, 79, 80, 81, 82] (by decide +kernel) (by decide +kernel)) (goodIn_sub (fun _ h => List.mem_cons_of_mem _ (List.mem_append_left _ (List.mem_append_right _ h))) (by decide +kernel))) (goodIn_sub (fun _ h => List.mem_cons_of_mem _ (List.mem_append_right _ h)) (by decide +kernel))
set_option maxRecDepth 20000 in
theorem gL_walk_X0_walk : GoodIn wsL_walk (wsV RL 59 RX0 yX0_walk wsX0_walk) := goodIn_app (goodIn_of _ (by decide +kernel)) ggL_walk_X0_walk
theorem dL_walk_0 : decode cL_walk 0 = .ok (.aload 4, 2) := by decide +kernel
theorem dL_walk_2 : decode cL_walk 2 = .ok (.iconst 0, 1) := by decide +kernel
theorem dL_walk_3 : decode cL_walk 3 = .ok (.aload_n 0, 1) := by decide +kernel
theorem dL_walk_4 : decode cL_walk 4 = .ok (.iload_n 1, 1) := by decide +kernel
theorem dL_walk_5 : decode cL_walk 5 = .ok (.iload_n 2, 1) := by decide +kernel
theorem dL_walk_6 : decode cL_walk 6 = .ok (.iload_n 3, 1) := by decide +kernel
theorem dL_walk_7 : decode cL_walk 7 = .ok (.invokevirtual 59, 3) := by decide +kernel
theorem dL_walk_10 : decode cL_walk 10 = .ok (.i2l, 1) := by decide +kernel
theorem dL_walk_11 : decode cL_walk 11 = .ok (.lastore, 1) := by decide +kernel
theorem dL_walk_12 : decode cL_walk 12 = .ok (.goto 11, 3) := by decide +kernel
theorem dL_walk_15 : decode cL_walk 15 = .ok (.astore 5, 2) := by decide +kernel
theorem dL_walk_17 : decode cL_walk 17 = .ok (.iconst 1, 1) := by decide +kernel
theorem dL_walk_18 : decode cL_walk 18 = .ok (.ireturn, 1) := by decide +kernel
theorem dL_walk_19 : decode cL_walk 19 = .ok (.astore 5, 2) := by decide +kernel
theorem dL_walk_21 : decode cL_walk 21 = .ok (.iconst 2, 1) := by decide +kernel
theorem dL_walk_22 : decode cL_walk 22 = .ok (.ireturn, 1) := by decide +kernel
theorem dL_walk_23 : decode cL_walk 23 = .ok (.iconst 0, 1) := by decide +kernel
theorem dL_walk_24 : decode cL_walk 24 = .ok (.ireturn, 1) := by decide +kernel
set_option maxRecDepth 20000 in
theorem ggL_walkBySteps_X0_walkBySteps : GoodIn wsL_walkBySteps wsX0_walkBySteps := goodIn_ca (goodIn_ca (goodIn_r _ [7, 8, 9, 6, 10, 11, 12, 13, 14, 15, 16, 17, 18, 19, 20, 21, 22, 23, 24, 25, 26, 27, 28, 29, 30, 31, 32, 33, 34, 35, 36, 37, 38, 39, 40, 41, 42, 43, 44, 45, 46, 47, 48, 49, 50, 51, 52, 53, 54, 55, 56, 57, 58, 59, 60, 61, 62, 63, 64, 65, 66, 67, 68, 69, 70, 71, 72, 73, 74, 75, 76] (by decide +kernel) (by decide +kernel)) (goodIn_sub (fun _ h => List.mem_cons_of_mem _ (List.mem_append_left _ (List.mem_append_right _ h))) (by decide +kernel))) (goodIn_sub (fun _ h => List.mem_cons_of_mem _ (List.mem_append_right _ h)) (by decide +kernel))
set_option maxRecDepth 20000 in
theorem gL_walkBySteps_X0_walkBySteps : GoodIn wsL_walkBySteps (wsV RL 62 RX0 yX0_walkBySteps wsX0_walkBySteps) := goodIn_app (goodIn_of _ (by decide +kernel)) ggL_walkBySteps_X0_walkBySteps
theorem dL_walkBySteps_0 : decode cL_walkBySteps 0 = .ok (.aload 4, 2) := by decide +kernel
theorem dL_walkBySteps_2 : decode cL_walkBySteps 2 = .ok (.iconst 0, 1) := by decide +kernel
theorem dL_walkBySteps_3 : decode cL_walkBySteps 3 = .ok (.aload_n 0, 1) := by decide +kernel
theorem dL_walkBySteps_4 : decode cL_walkBySteps 4 = .ok (.iload_n 1, 1) := by decide +kernel
theorem dL_walkBySteps_5 : decode cL_walkBySteps 5 = .ok (.iload_n 2, 1) := by decide +kernel
theorem dL_walkBySteps_6 : decode cL_walkBySteps 6 = .ok (.iload_n 3, 1) := by decide +kernel
theorem dL_walkBySteps_7 : decode cL_walkBySteps 7 = .ok (.invokevirtual 62, 3) := by decide +kernel
theorem dL_walkBySteps_10 : decode cL_walkBySteps 10 = .ok (.i2l, 1) := by decide +kernel
theorem dL_walkBySteps_11 : decode cL_walkBySteps 11 = .ok (.lastore, 1) := by decide +kernel
theorem dL_walkBySteps_12 : decode cL_walkBySteps 12 = .ok (.goto 11, 3) := by decide +kernel
theorem dL_walkBySteps_15 : decode cL_walkBySteps 15 = .ok (.astore 5, 2) := by decide +kernel
theorem dL_walkBySteps_17 : decode cL_walkBySteps 17 = .ok (.iconst 1, 1) := by decide +kernel
theorem dL_walkBySteps_18 : decode cL_walkBySteps 18 = .ok (.ireturn, 1) := by decide +kernel
theorem dL_walkBySteps_19 : decode cL_walkBySteps 19 = .ok (.astore 5, 2) := by decide +kernel
theorem dL_walkBySteps_21 : decode cL_walkBySteps 21 = .ok (.iconst 2, 1) := by decide +kernel
theorem dL_walkBySteps_22 : decode cL_walkBySteps 22 = .ok (.ireturn, 1) := by decide +kernel
theorem dL_walkBySteps_23 : decode cL_walkBySteps 23 = .ok (.iconst 0, 1) := by decide +kernel
theorem dL_walkBySteps_24 : decode cL_walkBySteps 24 = .ok (.ireturn, 1) := by decide +kernel
set_option maxRecDepth 20000 in
theorem ggL_placeBehind_X0_placeBehind : GoodIn wsL_placeBehind wsX0_placeBehind := goodIn_ca (goodIn_ca (goodIn_r _ [7, 8, 9, 10, 11, 6, 12, 13, 14, 15, 16, 17, 18, 19, 20, 21, 22, 23, 24, 25, 26, 27, 28, 29, 30, 31, 32, 33, 34, 35, 36, 37, 38, 39, 40, 41, 42, 43, 44, 45, 46, 47, 48, 49, 50, 51, 52, 53, 54, 55, 56, 57, 58, 59, 60, 61, 62, 63, 64, 65, 66, 67, 68, 69, 70, 71, 72, 73, 74, 75, 76] (by decide +kernel) (by decide +kernel)) (goodIn_sub (fun _ h => List.mem_cons_of_mem _ (List.mem_append_left _ (List.mem_append_right _ h))) (by decide +kernel))) (goodIn_sub (fun _ h => List.mem_cons_of_mem _ (List.mem_append_right _ h)) (by decide +kernel))
set_option maxRecDepth 20000 in
theorem gL_placeBehind_X0_placeBehind : GoodIn wsL_placeBehind (wsV RL 65 RX0 yX0_placeBehind wsX0_placeBehind) := goodIn_app (goodIn_of _ (by decide +kernel)) ggL_placeBehind_X0_placeBehind
theorem dL_placeBehind_0 : decode cL_placeBehind 0 = .ok (.aload 5, 2) := by decide +kernel
theorem dL_placeBehind_2 : decode cL_placeBehind 2 = .ok (.iconst 0, 1) := by decide +kernel
theorem dL_placeBehind_3 : decode cL_placeBehind 3 = .ok (.aload_n 0, 1) := by decide +kernel
theorem dL_placeBehind_4 : decode cL_placeBehind 4 = .ok (.iload_n 1, 1) := by decide +kernel
theorem dL_placeBehind_5 : decode cL_placeBehind 5 = .ok (.iload_n 2, 1) := by decide +kernel
theorem dL_placeBehind_6 : decode cL_placeBehind 6 = .ok (.iload_n 3, 1) := by decide +kernel
theorem dL_placeBehind_7 : decode cL_placeBehind 7 = .ok (.iload 4, 2) := by decide +kernel
theorem dL_placeBehind_9 : decode cL_placeBehind 9 = .ok (.invokevirtual 65, 3) := by decide +kernel
theorem dL_placeBehind_12 : decode cL_placeBehind 12 = .ok (.i2l, 1) := by decide +kernel
theorem dL_placeBehind_13 : decode cL_placeBehind 13 = .ok (.lastore, 1) := by decide +kernel
theorem dL_placeBehind_14 : decode cL_placeBehind 14 = .ok (.goto 11, 3) := by decide +kernel
theorem dL_placeBehind_17 : decode cL_placeBehind 17 = .ok (.astore 6, 2) := by decide +kernel
theorem dL_placeBehind_19 : decode cL_placeBehind 19 = .ok (.iconst 1, 1) := by decide +kernel
theorem dL_placeBehind_20 : decode cL_placeBehind 20 = .ok (.ireturn, 1) := by decide +kernel
theorem dL_placeBehind_21 : decode cL_placeBehind 21 = .ok (.astore 6, 2) := by decide +kernel
theorem dL_placeBehind_23 : decode cL_placeBehind 23 = .ok (.iconst 2, 1) := by decide +kernel
theorem dL_placeBehind_24 : decode cL_placeBehind 24 = .ok (.ireturn, 1) := by decide +kernel
theorem dL_placeBehind_25 : decode cL_placeBehind 25 = .ok (.iconst 0, 1) := by decide +kernel
theorem dL_placeBehind_26 : decode cL_placeBehind 26 = .ok (.ireturn, 1) := by decide +kernel
end
section
set_option maxRecDepth 20000 in
theorem ggL_law_X0_init : GoodIn wsL_law wsX0_init := goodIn_r _ [9, 10, 11, 12, 13, 14, 15, 16, 17, 18, 19, 20, 21, 22, 23, 24, 25, 26, 27, 417, 418, 419, 420, 421, 422, 423, 424, 425, 426] (by decide +kernel) (by decide +kernel)
set_option maxRecDepth 20000 in
theorem gL_law_X0_init : GoodIn wsL_law (wsX0_init) := ggL_law_X0_init
set_option maxRecDepth 20000 in
theorem ggL_law_X1_init : GoodIn wsL_law wsX1_init := goodIn_r _ [30, 31, 11, 12, 13, 32, 33, 34, 35, 36, 37, 38, 39, 40, 41, 42, 427, 428, 429, 430, 431, 432, 433, 434, 435, 436, 437, 438, 439, 440, 441] (by decide +kernel) (by decide +kernel)
set_option maxRecDepth 20000 in
theorem gL_law_X1_init : GoodIn wsL_law (wsX1_init) := ggL_law_X1_init
set_option maxRecDepth 20000 in
theorem ggL_law_L_stroke : GoodIn wsL_law wsL_stroke := goodIn_ca (goodIn_ca (goodIn_r _ [46, 47, 48, 49, 50, 51, 2, 52, 14, 53, 54, 55, 56, 57, 58, 59, 60, 61, 62, 63, 64, 65, 66, 67, 68, 69, 70, 71, 72, 73, 74, 75, 76, 77, 78, 79, 80, 81, 82, 22, 83, 84, 85, 86, 87, 88, 89, 90, 91, 92, 417, 418, 419, 420, 421, 422, 423, 424, 425, 426] (by decide +kernel) (by decide +kernel)) (goodIn_sub (fun _ h => List.mem_append_left _ (List.mem_append_left _ (List.mem_append_right _ h))) (by decide +kernel))) (goodIn_sub (fun _ h => List.mem_append_left _ (List.mem_append_right _ h)) (by decide +kernel))
set_option maxRecDepth 20000 in
theorem gL_law_L_stroke : GoodIn wsL_law (va_wsS RL 73 yL_stroke wsL_stroke) := goodIn_app (goodIn_of _ (by decide +kernel)) ggL_law_L_stroke
set_option maxRecDepth 20000 in
theorem ggL_law_X1_stroke : GoodIn wsL_law wsX1_stroke := goodIn_r _ [96, 97, 32, 98, 99, 5, 100, 101, 102, 103, 104, 105, 106, 107, 108, 109, 110, 427, 428, 429, 430, 431, 432, 433, 434, 435, 436, 437, 438, 439, 440, 441] (by decide +kernel) (by decide +kernel)
set_option maxRecDepth 20000 in
theorem gL_law_X1_stroke : GoodIn wsL_law (wsV RL 78 RX1 yX1_stroke wsX1_stroke) := goodIn_app (goodIn_of _ (by decide +kernel)) ggL_law_X1_stroke
set_option maxRecDepth 20000 in
theorem ggL_law_X1_thrown : GoodIn wsL_law wsX1_thrown := goodIn_r _ [114, 97, 427, 428, 429, 430, 431, 432, 433, 434, 435, 436, 437, 438, 439, 440, 441] (by decide +kernel) (by decide +kernel)
set_option maxRecDepth 20000 in
theorem gL_law_X1_thrown : GoodIn wsL_law (wsV RL 79 RX1 yX1_thrown wsX1_thrown) := goodIn_app (goodIn_of _ (by decide +kernel)) ggL_law_X1_thrown
set_option maxRecDepth 20000 in
theorem ggL_law_L_difference : GoodIn wsL_law wsL_difference := goodIn_ca (goodIn_r _ [117, 47, 118, 119, 120, 2, 121, 14, 53, 54, 55, 56, 57, 83, 84, 85, 86, 87, 88, 89, 90, 91, 92, 417, 418, 419, 420, 421, 422, 423, 424, 425, 426] (by decide +kernel) (by decide +kernel)) (goodIn_sub (fun _ h => List.mem_append_left _ (List.mem_append_left _ (List.mem_append_right _ h))) (by decide +kernel))
set_option maxRecDepth 20000 in
theorem gL_law_L_difference : GoodIn wsL_law (va_wsS RL 82 yL_difference wsL_difference) := goodIn_app (goodIn_of _ (by decide +kernel)) ggL_law_L_difference
set_option maxRecDepth 20000 in
theorem ggL_law_X1_difference : GoodIn wsL_law wsX1_difference := goodIn_r _ [125, 97, 32, 101, 102, 5, 103, 98, 99, 100, 108, 109, 110, 104, 105, 106, 107, 427, 428, 429, 430, 431, 432, 433, 434, 435, 436, 437, 438, 439, 440, 441] (by decide +kernel) (by decide +kernel)
set_option maxRecDepth 20000 in
theorem gL_law_X1_difference : GoodIn wsL_law (wsV RL 85 RX1 yX1_difference wsX1_difference) := goodIn_app (goodIn_of _ (by decide +kernel)) ggL_law_X1_difference
set_option maxRecDepth 20000 in
theorem ggL_law_L_width : GoodIn wsL_law wsL_width := goodIn_ca (goodIn_r _ [128, 47, 129, 130, 131, 2, 132, 14, 53, 54, 55, 56, 57, 133, 134, 135, 136, 137, 138, 70, 71, 72, 63, 64, 65, 66, 73, 74, 75, 76, 77, 78, 417, 418, 419, 420, 421, 422, 423, 424, 425, 426] (by decide +kernel) (by decide +kernel)) (goodIn_sub (fun _ h => List.mem_append_left _ (List.mem_append_left _ (List.mem_append_right _ h))) (by decide +kernel))
set_option maxRecDepth 20000 in
theorem gL_law_L_width : GoodIn wsL_law (va_wsS RL 86 yL_width wsL_width) := goodIn_app (goodIn_of _ (by decide +kernel)) ggL_law_L_width
set_option maxRecDepth 20000 in
theorem ggL_law_X1_width : GoodIn wsL_law wsX1_width := goodIn_r _ [142, 97, 101, 102, 5, 103, 98, 99, 100, 143, 144, 145, 146, 32, 104, 105, 106, 107, 427, 428, 429, 430, 431, 432, 433, 434, 435, 436, 437, 438, 439, 440, 441] (by decide +kernel) (by decide +kernel)
set_option maxRecDepth 20000 in
theorem gL_law_X1_width : GoodIn wsL_law (wsV RL 89 RX1 yX1_width wsX1_width) := goodIn_app (goodIn_of _ (by decide +kernel)) ggL_law_X1_width
set_option maxRecDepth 20000 in
theorem ggL_law_L_space : GoodIn wsL_law wsL_space := goodIn_ca (goodIn_ca (goodIn_r _ [149, 47, 48, 150, 151, 152, 2, 153, 61, 62, 15, 53, 54, 55, 56, 57, 154, 155, 156, 417, 418, 419, 420, 421, 422, 423, 424, 425, 426] (by decide +kernel) (by decide +kernel)) (goodIn_sub (fun _ h => List.mem_append_left _ (List.mem_append_right _ h)) (by decide +kernel))) (goodIn_sub (fun _ h => List.mem_append_left _ (List.mem_append_left _ (List.mem_append_right _ h))) (by decide +kernel))
set_option maxRecDepth 20000 in
theorem gL_law_L_space : GoodIn wsL_law (va_wsS RL 90 yL_space wsL_space) := goodIn_app (goodIn_of _ (by decide +kernel)) ggL_law_L_space
set_option maxRecDepth 20000 in
theorem ggL_law_X1_space : GoodIn wsL_law wsX1_space := goodIn_r _ [160, 97, 33, 101, 102, 5, 103, 98, 99, 100, 427, 428, 429, 430, 431, 432, 433, 434, 435, 436, 437, 438, 439, 440, 441] (by decide +kernel) (by decide +kernel)
set_option maxRecDepth 20000 in
theorem gL_law_X1_space : GoodIn wsL_law (wsV RL 93 RX1 yX1_space wsX1_space) := goodIn_app (goodIn_of _ (by decide +kernel)) ggL_law_X1_space
set_option maxRecDepth 20000 in
theorem ggL_law_L_lead : GoodIn wsL_law wsL_lead := goodIn_ca (goodIn_r _ [163, 47, 164, 165, 166, 2, 167, 16, 168, 169, 170, 56, 57, 171, 172, 173, 174, 175, 176, 79, 80, 81, 82, 22, 417, 418, 419, 420, 421, 422, 423, 424, 425, 426] (by decide +kernel) (by decide +kernel)) (goodIn_sub (fun _ h => List.mem_append_left _ (List.mem_append_left _ (List.mem_append_right _ h))) (by decide +kernel))
set_option maxRecDepth 20000 in
theorem gL_law_L_lead : GoodIn wsL_law (va_wsS RL 94 yL_lead wsL_lead) := goodIn_app (goodIn_of _ (by decide +kernel)) ggL_law_L_lead
set_option maxRecDepth 20000 in
theorem ggL_law_X1_lead : GoodIn wsL_law wsX1_lead := goodIn_r _ [180, 97, 34, 181, 182, 5, 183, 184, 185, 186, 98, 99, 100, 427, 428, 429, 430, 431, 432, 433, 434, 435, 436, 437, 438, 439, 440, 441] (by decide +kernel) (by decide +kernel)
set_option maxRecDepth 20000 in
theorem gL_law_X1_lead : GoodIn wsL_law (wsV RL 96 RX1 yX1_lead wsX1_lead) := goodIn_app (goodIn_of _ (by decide +kernel)) ggL_law_X1_lead
set_option maxRecDepth 20000 in
theorem ggL_law_L_name : GoodIn wsL_law wsL_name := goodIn_ca (goodIn_ca (goodIn_r _ [189, 47, 48, 190, 191, 192, 2, 193, 17, 171, 172, 173, 56, 57, 194, 195, 196, 61, 62, 197, 198, 199, 79, 80, 81, 82, 22, 417, 418, 419, 420, 421, 422, 423, 424, 425, 426] (by decide +kernel) (by decide +kernel)) (goodIn_sub (fun _ h => List.mem_append_left _ (List.mem_append_left _ (List.mem_append_right _ h))) (by decide +kernel))) (goodIn_sub (fun _ h => List.mem_append_left _ (List.mem_append_right _ h)) (by decide +kernel))
set_option maxRecDepth 20000 in
theorem gL_law_L_name : GoodIn wsL_law (va_wsS RL 97 yL_name wsL_name) := goodIn_app (goodIn_of _ (by decide +kernel)) ggL_law_L_name
set_option maxRecDepth 20000 in
theorem ggL_law_X1_name : GoodIn wsL_law wsX1_name := goodIn_r _ [203, 97, 35, 36, 184, 185, 5, 186, 98, 99, 100, 204, 205, 206, 207, 208, 209, 427, 428, 429, 430, 431, 432, 433, 434, 435, 436, 437, 438, 439, 440, 441] (by decide +kernel) (by decide +kernel)
set_option maxRecDepth 20000 in
theorem gL_law_X1_name : GoodIn wsL_law (wsV RL 100 RX1 yX1_name wsX1_name) := goodIn_app (goodIn_of _ (by decide +kernel)) ggL_law_X1_name
set_option maxRecDepth 20000 in
theorem ggL_law_L_textWidth : GoodIn wsL_law wsL_textWidth := goodIn_ca (goodIn_r _ [212, 48, 213, 214, 215, 2, 216, 194, 195, 196, 61, 62, 197, 198, 199, 217, 218, 219, 220, 14, 15, 221, 222, 223, 224, 225, 226, 133, 134, 135, 136, 137, 138, 70, 71, 72, 63, 64, 65, 66, 73, 74, 75, 76, 77, 78, 154, 155, 156, 417, 418, 419, 420, 421, 422, 423, 424, 425, 426] (by decide +kernel) (by decide +kernel)) (goodIn_sub (fun _ h => List.mem_append_left _ (List.mem_append_right _ h)) (by decide +kernel))
set_option maxRecDepth 20000 in
theorem gL_law_L_textWidth : GoodIn wsL_law (va_wsS RL 101 yL_textWidth wsL_textWidth) := goodIn_app (goodIn_of _ (by decide +kernel)) ggL_law_L_textWidth
set_option maxRecDepth 20000 in
theorem ggL_law_X1_textWidth : GoodIn wsL_law wsX1_textWidth := goodIn_r _ [230, 97, 204, 205, 5, 206, 98, 99, 100, 207, 208, 209, 231, 232, 233, 234, 33, 235, 236, 237, 143, 144, 145, 146, 32, 104, 105, 106, 107, 427, 428, 429, 430, 431, 432, 433, 434, 435, 436, 437, 438, 439, 440, 441] (by decide +kernel) (by decide +kernel)
set_option maxRecDepth 20000 in
theorem gL_law_X1_textWidth : GoodIn wsL_law (wsV RL 103 RX1 yX1_textWidth wsX1_textWidth) := goodIn_app (goodIn_of _ (by decide +kernel)) ggL_law_X1_textWidth
set_option maxRecDepth 20000 in
theorem ggL_law_L_cut : GoodIn wsL_law wsL_cut := goodIn_ca (goodIn_ca (goodIn_ca (goodIn_r _ [240, 47, 48, 241, 242, 243, 244, 2, 245, 61, 62, 246, 247, 18, 19, 168, 169, 170, 56, 57, 171, 172, 173, 194, 195, 196, 197, 198, 199, 248, 249, 250, 251, 217, 218, 219, 220, 14, 15, 221, 222, 223, 224, 225, 226, 133, 134, 135, 136, 137, 138, 70, 71, 72, 63, 64, 65, 66, 73, 74, 75, 76, 77, 78, 154, 155, 156, 174, 175, 176, 252, 253, 254, 255, 20, 21, 79, 80, 81, 82, 22, 417, 418, 419, 420, 421, 422, 423, 424, 425, 426] (by decide +kernel) (by decide +kernel)) (goodIn_sub (fun _ h => List.mem_append_left _ (List.mem_append_right _ h)) (by decide +kernel))) (goodIn_sub (fun _ h => List.mem_append_right _ h) (by decide +kernel))) (goodIn_sub (fun _ h => List.mem_append_left _ (List.mem_append_left _ (List.mem_append_right _ h))) (by decide +kernel))
set_option maxRecDepth 20000 in
theorem gL_law_L_cut : GoodIn wsL_law (va_wsS RL 104 yL_cut wsL_cut) := goodIn_app (goodIn_of _ (by decide +kernel)) ggL_law_L_cut
set_option maxRecDepth 20000 in
theorem ggL_law_X1_cut : GoodIn wsL_law wsX1_cut := goodIn_r _ [259, 97, 37, 38, 39, 181, 182, 5, 183, 184, 185, 186, 98, 99, 100, 104, 105, 106, 107, 204, 205, 206, 207, 208, 209, 260, 261, 262, 263, 231, 232, 233, 234, 33, 235, 236, 237, 143, 144, 145, 146, 32, 264, 265, 266, 267, 40, 268, 427, 428, 429, 430, 431, 432, 433, 434, 435, 436, 437, 438, 439, 440, 441] (by decide +kernel) (by decide +kernel)
set_option maxRecDepth 20000 in
theorem gL_law_X1_cut : GoodIn wsL_law (wsV RL 107 RX1 yX1_cut wsX1_cut) := goodIn_app (goodIn_of _ (by decide +kernel)) ggL_law_X1_cut
set_option maxRecDepth 20000 in
theorem ggL_law_L_remove : GoodIn wsL_law wsL_remove := goodIn_ca (goodIn_r _ [271, 47, 272, 273, 274, 2, 275, 18, 168, 169, 170, 56, 57, 171, 172, 173, 174, 175, 176, 79, 80, 81, 82, 22, 417, 418, 419, 420, 421, 422, 423, 424, 425, 426] (by decide +kernel) (by decide +kernel)) (goodIn_sub (fun _ h => List.mem_append_left _ (List.mem_append_left _ (List.mem_append_right _ h))) (by decide +kernel))
set_option maxRecDepth 20000 in
theorem gL_law_L_remove : GoodIn wsL_law (va_wsS RL 108 yL_remove wsL_remove) := goodIn_app (goodIn_of _ (by decide +kernel)) ggL_law_L_remove
set_option maxRecDepth 20000 in
theorem ggL_law_X1_remove : GoodIn wsL_law wsX1_remove := goodIn_r _ [279, 97, 38, 181, 182, 5, 183, 184, 185, 186, 98, 99, 100, 427, 428, 429, 430, 431, 432, 433, 434, 435, 436, 437, 438, 439, 440, 441] (by decide +kernel) (by decide +kernel)
set_option maxRecDepth 20000 in
theorem gL_law_X1_remove : GoodIn wsL_law (wsV RL 110 RX1 yX1_remove wsX1_remove) := goodIn_app (goodIn_of _ (by decide +kernel)) ggL_law_X1_remove
set_option maxRecDepth 20000 in
theorem ggL_law_L_isOld : GoodIn wsL_law wsL_isOld := goodIn_ca (goodIn_r _ [282, 47, 283, 284, 285, 2, 286, 168, 169, 170, 56, 57, 171, 172, 173, 174, 175, 176, 287, 288, 289, 290, 18, 20, 14, 221, 222, 223, 224, 225, 226, 417, 418, 419, 420, 421, 422, 423, 424, 425, 426] (by decide +kernel) (by decide +kernel)) (goodIn_sub (fun _ h => List.mem_append_left _ (List.mem_append_left _ (List.mem_append_right _ h))) (by decide +kernel))
set_option maxRecDepth 20000 in
theorem gL_law_L_isOld : GoodIn wsL_law (va_wsS RL 111 yL_isOld wsL_isOld) := goodIn_app (goodIn_of _ (by decide +kernel)) ggL_law_L_isOld
set_option maxRecDepth 20000 in
theorem ggL_law_X1_isOld : GoodIn wsL_law wsX1_isOld := goodIn_r _ [294, 97, 181, 182, 5, 183, 184, 185, 186, 98, 99, 100, 295, 296, 297, 298, 38, 40, 32, 37, 235, 236, 237, 207, 208, 209, 427, 428, 429, 430, 431, 432, 433, 434, 435, 436, 437, 438, 439, 440, 441] (by decide +kernel) (by decide +kernel)
set_option maxRecDepth 20000 in
theorem gL_law_X1_isOld : GoodIn wsL_law (wsV RL 113 RX1 yX1_isOld wsX1_isOld) := goodIn_app (goodIn_of _ (by decide +kernel)) ggL_law_X1_isOld
set_option maxRecDepth 20000 in
theorem ggL_law_L_remake : GoodIn wsL_law wsL_remake := goodIn_ca (goodIn_r _ [301, 241, 302, 303, 304, 2, 305, 18, 306, 307, 308, 309, 246, 247, 287, 288, 289, 290, 20, 14, 221, 222, 223, 224, 225, 226, 248, 249, 250, 251, 217, 218, 219, 220, 15, 133, 134, 135, 136, 137, 138, 70, 71, 72, 63, 64, 65, 66, 73, 74, 75, 76, 77, 78, 154, 155, 156, 252, 253, 254, 255, 21, 79, 80, 81, 82, 22, 417, 418, 419, 420, 421, 422, 423, 424, 425, 426] (by decide +kernel) (by decide +kernel)) (goodIn_sub (fun _ h => List.mem_append_right _ h) (by decide +kernel))
set_option maxRecDepth 20000 in
theorem gL_law_L_remake : GoodIn wsL_law (va_wsS RL 114 yL_remake wsL_remake) := goodIn_app (goodIn_of _ (by decide +kernel)) ggL_law_L_remake
set_option maxRecDepth 20000 in
theorem ggL_law_X1_remake : GoodIn wsL_law wsX1_remake := goodIn_r _ [313, 97, 37, 38, 295, 296, 297, 5, 298, 40, 32, 235, 236, 237, 207, 208, 209, 260, 261, 262, 263, 231, 232, 233, 234, 33, 143, 144, 145, 146, 264, 265, 266, 267, 268, 427, 428, 429, 430, 431, 432, 433, 434, 435, 436, 437, 438, 439, 440, 441] (by decide +kernel) (by decide +kernel)
set_option maxRecDepth 20000 in
theorem gL_law_X1_remake : GoodIn wsL_law (wsV RL 117 RX1 yX1_remake wsX1_remake) := goodIn_app (goodIn_of _ (by decide +kernel)) ggL_law_X1_remake
set_option maxRecDepth 20000 in
theorem ggL_law_L_read : GoodIn wsL_law wsL_read := goodIn_ca (goodIn_r _ [316, 47, 317, 318, 319, 2, 320, 18, 168, 169, 170, 56, 57, 171, 172, 173, 174, 175, 176, 321, 322, 323, 324, 20, 19, 221, 222, 223, 325, 326, 327, 328, 14, 329, 330, 331, 332, 83, 84, 85, 86, 87, 88, 89, 90, 91, 92, 197, 198, 199, 333, 334, 335, 417, 418, 419, 420, 421, 422, 423, 424, 425, 426] (by decide +kernel) (by decide +kernel)) (goodIn_sub (fun _ h => List.mem_append_left _ (List.mem_append_left _ (List.mem_append_right _ h))) (by decide +kernel))
set_option maxRecDepth 20000 in
theorem gL_law_L_read : GoodIn wsL_law (va_wsS RL 118 yL_read wsL_read) := goodIn_app (goodIn_of _ (by decide +kernel)) ggL_law_L_read
set_option maxRecDepth 20000 in
theorem ggL_law_X1_read : GoodIn wsL_law wsX1_read := goodIn_r _ [339, 97, 38, 181, 182, 5, 183, 184, 185, 186, 98, 99, 100, 340, 341, 342, 343, 40, 32, 39, 344, 345, 346, 347, 108, 109, 110, 427, 428, 429, 430, 431, 432, 433, 434, 435, 436, 437, 438, 439, 440, 441] (by decide +kernel) (by decide +kernel)
set_option maxRecDepth 20000 in
theorem gL_law_X1_read : GoodIn wsL_law (wsV RL 120 RX1 yX1_read wsX1_read) := goodIn_app (goodIn_of _ (by decide +kernel)) ggL_law_X1_read
set_option maxRecDepth 20000 in
theorem ggL_law_X0_cost : GoodIn wsL_law wsX0_cost := goodIn_r _ [351, 21, 417, 418, 419, 420, 421, 422, 423, 424, 425, 426] (by decide +kernel) (by decide +kernel)
set_option maxRecDepth 20000 in
theorem gL_law_X0_cost : GoodIn wsL_law (wsV RL 121 RX0 yX0_cost wsX0_cost) := goodIn_app (goodIn_of _ (by decide +kernel)) ggL_law_X0_cost
set_option maxRecDepth 20000 in
theorem ggL_law_X1_cost : GoodIn wsL_law wsX1_cost := goodIn_r _ [355, 97, 268, 427, 428, 429, 430, 431, 432, 433, 434, 435, 436, 437, 438, 439, 440, 441] (by decide +kernel) (by decide +kernel)
set_option maxRecDepth 20000 in
theorem gL_law_X1_cost : GoodIn wsL_law (wsV RL 125 RX1 yX1_cost wsX1_cost) := goodIn_app (goodIn_of _ (by decide +kernel)) ggL_law_X1_cost
set_option maxRecDepth 20000 in
theorem ggL_law_L_walk : GoodIn wsL_law wsL_walk := goodIn_ca (goodIn_ca (goodIn_r _ [358, 47, 48, 359, 360, 361, 2, 362, 22, 23, 171, 172, 173, 56, 57, 194, 195, 196, 61, 62, 197, 198, 199, 24, 25, 26, 27, 363, 364, 365, 366, 17, 16, 367, 368, 369, 370, 174, 175, 176, 371, 372, 373, 374, 18, 221, 222, 223, 321, 322, 323, 324, 20, 19, 325, 326, 327, 328, 14, 329, 330, 331, 332, 83, 84, 85, 86, 87, 88, 89, 90, 91, 92, 417, 418, 419, 420, 421, 422, 423, 424, 425, 426] (by decide +kernel) (by decide +kernel)) (goodIn_sub (fun _ h => List.mem_append_left _ (List.mem_append_left _ (List.mem_append_right _ h))) (by decide +kernel))) (goodIn_sub (fun _ h => List.mem_append_left _ (List.mem_append_right _ h)) (by decide +kernel))
set_option maxRecDepth 20000 in
theorem gL_law_L_walk : GoodIn wsL_law (va_wsS RL 126 yL_walk wsL_walk) := goodIn_app (goodIn_of _ (by decide +kernel)) ggL_law_L_walk
set_option maxRecDepth 20000 in
theorem ggL_law_X1_walk : GoodIn wsL_law wsX1_walk := goodIn_r _ [378, 97, 379, 380, 184, 185, 5, 186, 98, 99, 100, 204, 205, 206, 207, 208, 209, 381, 382, 383, 384, 42, 385, 36, 35, 34, 386, 387, 388, 389, 38, 340, 341, 342, 343, 40, 32, 39, 344, 345, 346, 347, 108, 109, 110, 427, 428, 429, 430, 431, 432, 433, 434, 435, 436, 437, 438, 439, 440, 441] (by decide +kernel) (by decide +kernel)
set_option maxRecDepth 20000 in
theorem gL_law_X1_walk : GoodIn wsL_law (wsV RL 128 RX1 yX1_walk wsX1_walk) := goodIn_app (goodIn_of _ (by decide +kernel)) ggL_law_X1_walk
set_option maxRecDepth 20000 in
theorem ggL_law_L_walkBySteps : GoodIn wsL_law wsL_walkBySteps := goodIn_ca (goodIn_ca (goodIn_r _ [392, 47, 48, 393, 394, 395, 2, 396, 171, 172, 173, 56, 57, 194, 195, 196, 61, 62, 197, 198, 199, 363, 364, 365, 366, 17, 16, 367, 368, 369, 370, 174, 175, 176, 371, 372, 373, 374, 18, 221, 222, 223, 321, 322, 323, 324, 20, 19, 325, 326, 327, 328, 14, 329, 330, 331, 332, 83, 84, 85, 86, 87, 88, 89, 90, 91, 92, 417, 418, 419, 420, 421, 422, 423, 424, 425, 426] (by decide +kernel) (by decide +kernel)) (goodIn_sub (fun _ h => List.mem_append_left _ (List.mem_append_left _ (List.mem_append_right _ h))) (by decide +kernel))) (goodIn_sub (fun _ h => List.mem_append_left _ (List.mem_append_right _ h)) (by decide +kernel))
set_option maxRecDepth 20000 in
theorem gL_law_L_walkBySteps : GoodIn wsL_law (va_wsS RL 129 yL_walkBySteps wsL_walkBySteps) := goodIn_app (goodIn_of _ (by decide +kernel)) ggL_law_L_walkBySteps
set_option maxRecDepth 20000 in
theorem ggL_law_X1_walkBySteps : GoodIn wsL_law wsX1_walkBySteps := goodIn_r _ [400, 401, 376, 377, 5, 378, 97, 379, 380, 184, 185, 186, 98, 99, 100, 204, 205, 206, 207, 208, 209, 381, 382, 383, 384, 42, 385, 36, 35, 34, 386, 387, 388, 389, 38, 340, 341, 342, 343, 40, 32, 39, 344, 345, 346, 347, 108, 109, 110, 427, 428, 429, 430, 431, 432, 433, 434, 435, 436, 437, 438, 439, 440, 441] (by decide +kernel) (by decide +kernel)
set_option maxRecDepth 20000 in
theorem gL_law_X1_walkBySteps : GoodIn wsL_law (wsV RL 131 RX1 yX1_walkBySteps wsX1_walkBySteps) := goodIn_app (goodIn_of _ (by decide +kernel)) ggL_law_X1_walkBySteps
set_option maxRecDepth 20000 in
theorem ggL_law_L_placeBehind : GoodIn wsL_law wsL_placeBehind := goodIn_ca (goodIn_ca (goodIn_r _ [404, 47, 48, 405, 406, 407, 2, 408, 61, 62, 171, 172, 173, 56, 57, 194, 195, 196, 197, 198, 199, 409, 410, 411, 412, 17, 16, 367, 368, 369, 370, 174, 175, 176, 371, 372, 373, 374, 18, 221, 222, 223, 321, 322, 323, 324, 20, 19, 325, 326, 327, 328, 14, 329, 330, 331, 332, 83, 84, 85, 86, 87, 88, 89, 90, 91, 92, 417, 418, 419, 420, 421, 422, 423, 424, 425, 426] (by decide +kernel) (by decide +kernel)) (goodIn_sub (fun _ h => List.mem_append_left _ (List.mem_append_right _ h)) (by decide +kernel))) (goodIn_sub (fun _ h => List.mem_append_left _ (List.mem_append_left _ (List.mem_append_right _ h))) (by decide +kernel))
set_option maxRecDepth 20000 in
theorem gL_law_L_placeBehind : GoodIn wsL_law (va_wsS RL 132 yL_placeBehind wsL_placeBehind) := goodIn_app (goodIn_of _ (by decide +kernel)) ggL_law_L_placeBehind
set_option maxRecDepth 20000 in
theorem ggL_law_X1_placeBehind : GoodIn wsL_law wsX1_placeBehind := goodIn_r _ [416, 97, 385, 184, 185, 5, 186, 98, 99, 100, 204, 205, 206, 207, 208, 209, 381, 382, 383, 384, 42, 380, 36, 35, 379, 34, 386, 387, 388, 389, 38, 340, 341, 342, 343, 40, 32, 39, 344, 345, 346, 347, 108, 109, 110, 427, 428, 429, 430, 431, 432, 433, 434, 435, 436, 437, 438, 439, 440, 441] (by decide +kernel) (by decide +kernel)
set_option maxRecDepth 20000 in
theorem gL_law_X1_placeBehind : GoodIn wsL_law (wsV RL 135 RX1 yX1_placeBehind wsX1_placeBehind) := goodIn_app (goodIn_of _ (by decide +kernel)) ggL_law_X1_placeBehind
end
section
theorem dL_law_0 : decode cL_law 0 = .ok (.new 8, 3) := by decide +kernel
theorem dL_law_3 : decode cL_law 3 = .ok (.dup, 1) := by decide +kernel
theorem dL_law_4 : decode cL_law 4 = .ok (.invokespecial 69, 3) := by decide +kernel
theorem dL_law_7 : decode cL_law 7 = .ok (.astore_n 1, 1) := by decide +kernel
theorem dL_law_8 : decode cL_law 8 = .ok (.new 70, 3) := by decide +kernel
theorem dL_law_11 : decode cL_law 11 = .ok (.dup, 1) := by decide +kernel
theorem dL_law_12 : decode cL_law 12 = .ok (.invokespecial 72, 3) := by decide +kernel
theorem dL_law_15 : decode cL_law 15 = .ok (.astore_n 2, 1) := by decide +kernel
theorem dL_law_16 : decode cL_law 16 = .ok (.iconst 1, 1) := by decide +kernel
theorem dL_law_17 : decode cL_law 17 = .ok (.newarray .long, 2) := by decide +kernel
theorem dL_law_19 : decode cL_law 19 = .ok (.astore_n 3, 1) := by decide +kernel
theorem dL_law_20 : decode cL_law 20 = .ok (.iconst 0, 1) := by decide +kernel
theorem dL_law_21 : decode cL_law 21 = .ok (.istore 4, 2) := by decide +kernel
theorem dL_law_23 : decode cL_law 23 = .ok (.iload 4, 2) := by decide +kernel
theorem dL_law_25 : decode cL_law 25 = .ok (.aload_n 0, 1) := by decide +kernel
theorem dL_law_26 : decode cL_law 26 = .ok (.arraylength, 1) := by decide +kernel
theorem dL_law_27 : decode cL_law 27 = .ok (.bipush 7, 2) := by decide +kernel
theorem dL_law_29 : decode cL_law 29 = .ok (.isub, 1) := by decide +kernel
theorem dL_law_30 : decode cL_law 30 = .ok (.if_icmp .gt 1274, 3) := by decide +kernel
theorem dL_law_33 : decode cL_law 33 = .ok (.aload_n 0, 1) := by decide +kernel
theorem dL_law_34 : decode cL_law 34 = .ok (.iload 4, 2) := by decide +kernel
theorem dL_law_36 : decode cL_law 36 = .ok (.iaload, 1) := by decide +kernel
theorem dL_law_37 : decode cL_law 37 = .ok (.bipush 15, 2) := by decide +kernel
theorem dL_law_39 : decode cL_law 39 = .ok (.iand, 1) := by decide +kernel
theorem dL_law_40 : decode cL_law 40 = .ok (.tableswitch 1258 0 15 #[80, 214, 282, 338, 418, 498, 558, 626, 730, 805, 880, 924, 992, 1006, 1086, 1166], 80) := by decide +kernel
theorem dL_law_120 : decode cL_law 120 = .ok (.aload_n 1, 1) := by decide +kernel
theorem dL_law_121 : decode cL_law 121 = .ok (.aload_n 0, 1) := by decide +kernel
theorem dL_law_122 : decode cL_law 122 = .ok (.iload 4, 2) := by decide +kernel
theorem dL_law_124 : decode cL_law 124 = .ok (.iconst 1, 1) := by decide +kernel
theorem dL_law_125 : decode cL_law 125 = .ok (.iadd, 1) := by decide +kernel
theorem dL_law_126 : decode cL_law 126 = .ok (.iaload, 1) := by decide +kernel
theorem dL_law_127 : decode cL_law 127 = .ok (.aload_n 0, 1) := by decide +kernel
theorem dL_law_128 : decode cL_law 128 = .ok (.iload 4, 2) := by decide +kernel
theorem dL_law_130 : decode cL_law 130 = .ok (.iconst 2, 1) := by decide +kernel
theorem dL_law_131 : decode cL_law 131 = .ok (.iadd, 1) := by decide +kernel
theorem dL_law_132 : decode cL_law 132 = .ok (.iaload, 1) := by decide +kernel
theorem dL_law_133 : decode cL_law 133 = .ok (.aload_n 0, 1) := by decide +kernel
theorem dL_law_134 : decode cL_law 134 = .ok (.iload 4, 2) := by decide +kernel
theorem dL_law_136 : decode cL_law 136 = .ok (.iconst 3, 1) := by decide +kernel
theorem dL_law_137 : decode cL_law 137 = .ok (.iadd, 1) := by decide +kernel
theorem dL_law_138 : decode cL_law 138 = .ok (.iaload, 1) := by decide +kernel
theorem dL_law_139 : decode cL_law 139 = .ok (.aload_n 0, 1) := by decide +kernel
theorem dL_law_140 : decode cL_law 140 = .ok (.iload 4, 2) := by decide +kernel
theorem dL_law_142 : decode cL_law 142 = .ok (.iconst 4, 1) := by decide +kernel
theorem dL_law_143 : decode cL_law 143 = .ok (.iadd, 1) := by decide +kernel
theorem dL_law_144 : decode cL_law 144 = .ok (.iaload, 1) := by decide +kernel
theorem dL_law_145 : decode cL_law 145 = .ok (.aload_n 0, 1) := by decide +kernel
theorem dL_law_146 : decode cL_law 146 = .ok (.iload 4, 2) := by decide +kernel
theorem dL_law_148 : decode cL_law 148 = .ok (.iconst 5, 1) := by decide +kernel
theorem dL_law_149 : decode cL_law 149 = .ok (.iadd, 1) := by decide +kernel
theorem dL_law_150 : decode cL_law 150 = .ok (.iaload, 1) := by decide +kernel
theorem dL_law_151 : decode cL_law 151 = .ok (.aload_n 0, 1) := by decide +kernel
theorem dL_law_152 : decode cL_law 152 = .ok (.iload 4, 2) := by decide +kernel
theorem dL_law_154 : decode cL_law 154 = .ok (.bipush 6, 2) := by decide +kernel
theorem dL_law_156 : decode cL_law 156 = .ok (.iadd, 1) := by decide +kernel
theorem dL_law_157 : decode cL_law 157 = .ok (.iaload, 1) := by decide +kernel
theorem dL_law_158 : decode cL_law 158 = .ok (.ifCond .eq 7, 3) := by decide +kernel
theorem dL_law_161 : decode cL_law 161 = .ok (.iconst 1, 1) := by decide +kernel
theorem dL_law_162 : decode cL_law 162 = .ok (.goto 4, 3) := by decide +kernel
theorem dL_law_165 : decode cL_law 165 = .ok (.iconst 0, 1) := by decide +kernel
theorem dL_law_166 : decode cL_law 166 = .ok (.aload_n 3, 1) := by decide +kernel
theorem dL_law_167 : decode cL_law 167 = .ok (.invokestatic 73, 3) := by decide +kernel
theorem dL_law_170 : decode cL_law 170 = .ok (.istore 5, 2) := by decide +kernel
theorem dL_law_172 : decode cL_law 172 = .ok (.aload_n 2, 1) := by decide +kernel
theorem dL_law_173 : decode cL_law 173 = .ok (.aload_n 0, 1) := by decide +kernel
theorem dL_law_174 : decode cL_law 174 = .ok (.iload 4, 2) := by decide +kernel
theorem dL_law_176 : decode cL_law 176 = .ok (.iconst 1, 1) := by decide +kernel
theorem dL_law_177 : decode cL_law 177 = .ok (.iadd, 1) := by decide +kernel
theorem dL_law_178 : decode cL_law 178 = .ok (.iaload, 1) := by decide +kernel
theorem dL_law_179 : decode cL_law 179 = .ok (.aload_n 0, 1) := by decide +kernel
theorem dL_law_180 : decode cL_law 180 = .ok (.iload 4, 2) := by decide +kernel
theorem dL_law_182 : decode cL_law 182 = .ok (.iconst 2, 1) := by decide +kernel
theorem dL_law_183 : decode cL_law 183 = .ok (.iadd, 1) := by decide +kernel
theorem dL_law_184 : decode cL_law 184 = .ok (.iaload, 1) := by decide +kernel
theorem dL_law_185 : decode cL_law 185 = .ok (.aload_n 0, 1) := by decide +kernel
theorem dL_law_186 : decode cL_law 186 = .ok (.iload 4, 2) := by decide +kernel
theorem dL_law_188 : decode cL_law 188 = .ok (.iconst 3, 1) := by decide +kernel
theorem dL_law_189 : decode cL_law 189 = .ok (.iadd, 1) := by decide +kernel
theorem dL_law_190 : decode cL_law 190 = .ok (.iaload, 1) := by decide +kernel
theorem dL_law_191 : decode cL_law 191 = .ok (.aload_n 0, 1) := by decide +kernel
theorem dL_law_192 : decode cL_law 192 = .ok (.iload 4, 2) := by decide +kernel
theorem dL_law_194 : decode cL_law 194 = .ok (.iconst 4, 1) := by decide +kernel
theorem dL_law_195 : decode cL_law 195 = .ok (.iadd, 1) := by decide +kernel
theorem dL_law_196 : decode cL_law 196 = .ok (.iaload, 1) := by decide +kernel
theorem dL_law_197 : decode cL_law 197 = .ok (.aload_n 0, 1) := by decide +kernel
theorem dL_law_198 : decode cL_law 198 = .ok (.iload 4, 2) := by decide +kernel
theorem dL_law_200 : decode cL_law 200 = .ok (.iconst 5, 1) := by decide +kernel
theorem dL_law_201 : decode cL_law 201 = .ok (.iadd, 1) := by decide +kernel
theorem dL_law_202 : decode cL_law 202 = .ok (.iaload, 1) := by decide +kernel
theorem dL_law_203 : decode cL_law 203 = .ok (.aload_n 0, 1) := by decide +kernel
theorem dL_law_204 : decode cL_law 204 = .ok (.iload 4, 2) := by decide +kernel
theorem dL_law_206 : decode cL_law 206 = .ok (.bipush 6, 2) := by decide +kernel
theorem dL_law_208 : decode cL_law 208 = .ok (.iadd, 1) := by decide +kernel
theorem dL_law_209 : decode cL_law 209 = .ok (.iaload, 1) := by decide +kernel
theorem dL_law_210 : decode cL_law 210 = .ok (.ifCond .eq 7, 3) := by decide +kernel
theorem dL_law_213 : decode cL_law 213 = .ok (.iconst 1, 1) := by decide +kernel
theorem dL_law_214 : decode cL_law 214 = .ok (.goto 4, 3) := by decide +kernel
theorem dL_law_217 : decode cL_law 217 = .ok (.iconst 0, 1) := by decide +kernel
theorem dL_law_218 : decode cL_law 218 = .ok (.invokevirtual 78, 3) := by decide +kernel
theorem dL_law_221 : decode cL_law 221 = .ok (.istore 6, 2) := by decide +kernel
theorem dL_law_223 : decode cL_law 223 = .ok (.aload_n 2, 1) := by decide +kernel
theorem dL_law_224 : decode cL_law 224 = .ok (.invokevirtual 79, 3) := by decide +kernel
theorem dL_law_227 : decode cL_law 227 = .ok (.iload 5, 2) := by decide +kernel
theorem dL_law_229 : decode cL_law 229 = .ok (.if_icmp .eq 5, 3) := by decide +kernel
theorem dL_law_232 : decode cL_law 232 = .ok (.iconst 0, 1) := by decide +kernel
theorem dL_law_233 : decode cL_law 233 = .ok (.ireturn, 1) := by decide +kernel
theorem dL_law_234 : decode cL_law 234 = .ok (.iload 5, 2) := by decide +kernel
theorem dL_law_236 : decode cL_law 236 = .ok (.ifCond .ne 15, 3) := by decide +kernel
theorem dL_law_239 : decode cL_law 239 = .ok (.aload_n 3, 1) := by decide +kernel
theorem dL_law_240 : decode cL_law 240 = .ok (.iconst 0, 1) := by decide +kernel
theorem dL_law_241 : decode cL_law 241 = .ok (.laload, 1) := by decide +kernel
theorem dL_law_242 : decode cL_law 242 = .ok (.iload 6, 2) := by decide +kernel
theorem dL_law_244 : decode cL_law 244 = .ok (.i2l, 1) := by decide +kernel
theorem dL_law_245 : decode cL_law 245 = .ok (.lcmp, 1) := by decide +kernel
theorem dL_law_246 : decode cL_law 246 = .ok (.ifCond .eq 5, 3) := by decide +kernel
theorem dL_law_249 : decode cL_law 249 = .ok (.iconst 0, 1) := by decide +kernel
theorem dL_law_250 : decode cL_law 250 = .ok (.ireturn, 1) := by decide +kernel
theorem dL_law_251 : decode cL_law 251 = .ok (.goto 1047, 3) := by decide +kernel
theorem dL_law_254 : decode cL_law 254 = .ok (.aload_n 1, 1) := by decide +kernel
theorem dL_law_255 : decode cL_law 255 = .ok (.aload_n 0, 1) := by decide +kernel
theorem dL_law_256 : decode cL_law 256 = .ok (.iload 4, 2) := by decide +kernel
theorem dL_law_258 : decode cL_law 258 = .ok (.iconst 1, 1) := by decide +kernel
theorem dL_law_259 : decode cL_law 259 = .ok (.iadd, 1) := by decide +kernel
theorem dL_law_260 : decode cL_law 260 = .ok (.iaload, 1) := by decide +kernel
theorem dL_law_261 : decode cL_law 261 = .ok (.aload_n 0, 1) := by decide +kernel
theorem dL_law_262 : decode cL_law 262 = .ok (.iload 4, 2) := by decide +kernel
theorem dL_law_264 : decode cL_law 264 = .ok (.iconst 2, 1) := by decide +kernel
theorem dL_law_265 : decode cL_law 265 = .ok (.iadd, 1) := by decide +kernel
theorem dL_law_266 : decode cL_law 266 = .ok (.iaload, 1) := by decide +kernel
theorem dL_law_267 : decode cL_law 267 = .ok (.aload_n 3, 1) := by decide +kernel
theorem dL_law_268 : decode cL_law 268 = .ok (.invokestatic 82, 3) := by decide +kernel
theorem dL_law_271 : decode cL_law 271 = .ok (.istore 5, 2) := by decide +kernel
theorem dL_law_273 : decode cL_law 273 = .ok (.aload_n 2, 1) := by decide +kernel
theorem dL_law_274 : decode cL_law 274 = .ok (.aload_n 0, 1) := by decide +kernel
theorem dL_law_275 : decode cL_law 275 = .ok (.iload 4, 2) := by decide +kernel
theorem dL_law_277 : decode cL_law 277 = .ok (.iconst 1, 1) := by decide +kernel
theorem dL_law_278 : decode cL_law 278 = .ok (.iadd, 1) := by decide +kernel
theorem dL_law_279 : decode cL_law 279 = .ok (.iaload, 1) := by decide +kernel
theorem dL_law_280 : decode cL_law 280 = .ok (.aload_n 0, 1) := by decide +kernel
theorem dL_law_281 : decode cL_law 281 = .ok (.iload 4, 2) := by decide +kernel
theorem dL_law_283 : decode cL_law 283 = .ok (.iconst 2, 1) := by decide +kernel
theorem dL_law_284 : decode cL_law 284 = .ok (.iadd, 1) := by decide +kernel
theorem dL_law_285 : decode cL_law 285 = .ok (.iaload, 1) := by decide +kernel
theorem dL_law_286 : decode cL_law 286 = .ok (.invokevirtual 85, 3) := by decide +kernel
theorem dL_law_289 : decode cL_law 289 = .ok (.istore 6, 2) := by decide +kernel
theorem dL_law_291 : decode cL_law 291 = .ok (.aload_n 2, 1) := by decide +kernel
theorem dL_law_292 : decode cL_law 292 = .ok (.invokevirtual 79, 3) := by decide +kernel
theorem dL_law_295 : decode cL_law 295 = .ok (.iload 5, 2) := by decide +kernel
theorem dL_law_297 : decode cL_law 297 = .ok (.if_icmp .eq 5, 3) := by decide +kernel
theorem dL_law_300 : decode cL_law 300 = .ok (.iconst 0, 1) := by decide +kernel
theorem dL_law_301 : decode cL_law 301 = .ok (.ireturn, 1) := by decide +kernel
theorem dL_law_302 : decode cL_law 302 = .ok (.iload 5, 2) := by decide +kernel
theorem dL_law_304 : decode cL_law 304 = .ok (.ifCond .ne 15, 3) := by decide +kernel
theorem dL_law_307 : decode cL_law 307 = .ok (.aload_n 3, 1) := by decide +kernel
theorem dL_law_308 : decode cL_law 308 = .ok (.iconst 0, 1) := by decide +kernel
theorem dL_law_309 : decode cL_law 309 = .ok (.laload, 1) := by decide +kernel
theorem dL_law_310 : decode cL_law 310 = .ok (.iload 6, 2) := by decide +kernel
theorem dL_law_312 : decode cL_law 312 = .ok (.i2l, 1) := by decide +kernel
theorem dL_law_313 : decode cL_law 313 = .ok (.lcmp, 1) := by decide +kernel
theorem dL_law_314 : decode cL_law 314 = .ok (.ifCond .eq 5, 3) := by decide +kernel
theorem dL_law_317 : decode cL_law 317 = .ok (.iconst 0, 1) := by decide +kernel
theorem dL_law_318 : decode cL_law 318 = .ok (.ireturn, 1) := by decide +kernel
theorem dL_law_319 : decode cL_law 319 = .ok (.goto 979, 3) := by decide +kernel
theorem dL_law_322 : decode cL_law 322 = .ok (.aload_n 1, 1) := by decide +kernel
theorem dL_law_323 : decode cL_law 323 = .ok (.aload_n 0, 1) := by decide +kernel
theorem dL_law_324 : decode cL_law 324 = .ok (.iload 4, 2) := by decide +kernel
theorem dL_law_326 : decode cL_law 326 = .ok (.iconst 1, 1) := by decide +kernel
theorem dL_law_327 : decode cL_law 327 = .ok (.iadd, 1) := by decide +kernel
theorem dL_law_328 : decode cL_law 328 = .ok (.iaload, 1) := by decide +kernel
theorem dL_law_329 : decode cL_law 329 = .ok (.aload_n 3, 1) := by decide +kernel
theorem dL_law_330 : decode cL_law 330 = .ok (.invokestatic 86, 3) := by decide +kernel
theorem dL_law_333 : decode cL_law 333 = .ok (.istore 5, 2) := by decide +kernel
theorem dL_law_335 : decode cL_law 335 = .ok (.aload_n 2, 1) := by decide +kernel
theorem dL_law_336 : decode cL_law 336 = .ok (.aload_n 0, 1) := by decide +kernel
theorem dL_law_337 : decode cL_law 337 = .ok (.iload 4, 2) := by decide +kernel
theorem dL_law_339 : decode cL_law 339 = .ok (.iconst 1, 1) := by decide +kernel
theorem dL_law_340 : decode cL_law 340 = .ok (.iadd, 1) := by decide +kernel
theorem dL_law_341 : decode cL_law 341 = .ok (.iaload, 1) := by decide +kernel
theorem dL_law_342 : decode cL_law 342 = .ok (.invokevirtual 89, 3) := by decide +kernel
theorem dL_law_345 : decode cL_law 345 = .ok (.istore 6, 2) := by decide +kernel
theorem dL_law_347 : decode cL_law 347 = .ok (.aload_n 2, 1) := by decide +kernel
theorem dL_law_348 : decode cL_law 348 = .ok (.invokevirtual 79, 3) := by decide +kernel
theorem dL_law_351 : decode cL_law 351 = .ok (.iload 5, 2) := by decide +kernel
theorem dL_law_353 : decode cL_law 353 = .ok (.if_icmp .eq 5, 3) := by decide +kernel
theorem dL_law_356 : decode cL_law 356 = .ok (.iconst 0, 1) := by decide +kernel
theorem dL_law_357 : decode cL_law 357 = .ok (.ireturn, 1) := by decide +kernel
theorem dL_law_358 : decode cL_law 358 = .ok (.iload 5, 2) := by decide +kernel
theorem dL_law_360 : decode cL_law 360 = .ok (.ifCond .ne 15, 3) := by decide +kernel
theorem dL_law_363 : decode cL_law 363 = .ok (.aload_n 3, 1) := by decide +kernel
theorem dL_law_364 : decode cL_law 364 = .ok (.iconst 0, 1) := by decide +kernel
theorem dL_law_365 : decode cL_law 365 = .ok (.laload, 1) := by decide +kernel
theorem dL_law_366 : decode cL_law 366 = .ok (.iload 6, 2) := by decide +kernel
theorem dL_law_368 : decode cL_law 368 = .ok (.i2l, 1) := by decide +kernel
theorem dL_law_369 : decode cL_law 369 = .ok (.lcmp, 1) := by decide +kernel
theorem dL_law_370 : decode cL_law 370 = .ok (.ifCond .eq 5, 3) := by decide +kernel
theorem dL_law_373 : decode cL_law 373 = .ok (.iconst 0, 1) := by decide +kernel
theorem dL_law_374 : decode cL_law 374 = .ok (.ireturn, 1) := by decide +kernel
theorem dL_law_375 : decode cL_law 375 = .ok (.goto 923, 3) := by decide +kernel
theorem dL_law_378 : decode cL_law 378 = .ok (.aload_n 1, 1) := by decide +kernel
theorem dL_law_379 : decode cL_law 379 = .ok (.aload_n 0, 1) := by decide +kernel
theorem dL_law_380 : decode cL_law 380 = .ok (.iload 4, 2) := by decide +kernel
theorem dL_law_382 : decode cL_law 382 = .ok (.iconst 1, 1) := by decide +kernel
theorem dL_law_383 : decode cL_law 383 = .ok (.iadd, 1) := by decide +kernel
theorem dL_law_384 : decode cL_law 384 = .ok (.iaload, 1) := by decide +kernel
theorem dL_law_385 : decode cL_law 385 = .ok (.aload_n 0, 1) := by decide +kernel
theorem dL_law_386 : decode cL_law 386 = .ok (.iload 4, 2) := by decide +kernel
theorem dL_law_388 : decode cL_law 388 = .ok (.iconst 2, 1) := by decide +kernel
theorem dL_law_389 : decode cL_law 389 = .ok (.iadd, 1) := by decide +kernel
theorem dL_law_390 : decode cL_law 390 = .ok (.iaload, 1) := by decide +kernel
theorem dL_law_391 : decode cL_law 391 = .ok (.aload_n 0, 1) := by decide +kernel
theorem dL_law_392 : decode cL_law 392 = .ok (.iload 4, 2) := by decide +kernel
theorem dL_law_394 : decode cL_law 394 = .ok (.iconst 3, 1) := by decide +kernel
theorem dL_law_395 : decode cL_law 395 = .ok (.iadd, 1) := by decide +kernel
theorem dL_law_396 : decode cL_law 396 = .ok (.iaload, 1) := by decide +kernel
theorem dL_law_397 : decode cL_law 397 = .ok (.aload_n 3, 1) := by decide +kernel
theorem dL_law_398 : decode cL_law 398 = .ok (.invokestatic 90, 3) := by decide +kernel
theorem dL_law_401 : decode cL_law 401 = .ok (.istore 5, 2) := by decide +kernel
theorem dL_law_403 : decode cL_law 403 = .ok (.aload_n 2, 1) := by decide +kernel
theorem dL_law_404 : decode cL_law 404 = .ok (.aload_n 0, 1) := by decide +kernel
theorem dL_law_405 : decode cL_law 405 = .ok (.iload 4, 2) := by decide +kernel
theorem dL_law_407 : decode cL_law 407 = .ok (.iconst 1, 1) := by decide +kernel
theorem dL_law_408 : decode cL_law 408 = .ok (.iadd, 1) := by decide +kernel
theorem dL_law_409 : decode cL_law 409 = .ok (.iaload, 1) := by decide +kernel
theorem dL_law_410 : decode cL_law 410 = .ok (.aload_n 0, 1) := by decide +kernel
theorem dL_law_411 : decode cL_law 411 = .ok (.iload 4, 2) := by decide +kernel
theorem dL_law_413 : decode cL_law 413 = .ok (.iconst 2, 1) := by decide +kernel
theorem dL_law_414 : decode cL_law 414 = .ok (.iadd, 1) := by decide +kernel
theorem dL_law_415 : decode cL_law 415 = .ok (.iaload, 1) := by decide +kernel
theorem dL_law_416 : decode cL_law 416 = .ok (.aload_n 0, 1) := by decide +kernel
theorem dL_law_417 : decode cL_law 417 = .ok (.iload 4, 2) := by decide +kernel
theorem dL_law_419 : decode cL_law 419 = .ok (.iconst 3, 1) := by decide +kernel
theorem dL_law_420 : decode cL_law 420 = .ok (.iadd, 1) := by decide +kernel
theorem dL_law_421 : decode cL_law 421 = .ok (.iaload, 1) := by decide +kernel
theorem dL_law_422 : decode cL_law 422 = .ok (.invokevirtual 93, 3) := by decide +kernel
theorem dL_law_425 : decode cL_law 425 = .ok (.istore 6, 2) := by decide +kernel
theorem dL_law_427 : decode cL_law 427 = .ok (.aload_n 2, 1) := by decide +kernel
theorem dL_law_428 : decode cL_law 428 = .ok (.invokevirtual 79, 3) := by decide +kernel
theorem dL_law_431 : decode cL_law 431 = .ok (.iload 5, 2) := by decide +kernel
theorem dL_law_433 : decode cL_law 433 = .ok (.if_icmp .eq 5, 3) := by decide +kernel
theorem dL_law_436 : decode cL_law 436 = .ok (.iconst 0, 1) := by decide +kernel
theorem dL_law_437 : decode cL_law 437 = .ok (.ireturn, 1) := by decide +kernel
theorem dL_law_438 : decode cL_law 438 = .ok (.iload 5, 2) := by decide +kernel
theorem dL_law_440 : decode cL_law 440 = .ok (.ifCond .ne 15, 3) := by decide +kernel
theorem dL_law_443 : decode cL_law 443 = .ok (.aload_n 3, 1) := by decide +kernel
theorem dL_law_444 : decode cL_law 444 = .ok (.iconst 0, 1) := by decide +kernel
theorem dL_law_445 : decode cL_law 445 = .ok (.laload, 1) := by decide +kernel
theorem dL_law_446 : decode cL_law 446 = .ok (.iload 6, 2) := by decide +kernel
theorem dL_law_448 : decode cL_law 448 = .ok (.i2l, 1) := by decide +kernel
theorem dL_law_449 : decode cL_law 449 = .ok (.lcmp, 1) := by decide +kernel
theorem dL_law_450 : decode cL_law 450 = .ok (.ifCond .eq 5, 3) := by decide +kernel
theorem dL_law_453 : decode cL_law 453 = .ok (.iconst 0, 1) := by decide +kernel
theorem dL_law_454 : decode cL_law 454 = .ok (.ireturn, 1) := by decide +kernel
theorem dL_law_455 : decode cL_law 455 = .ok (.goto 843, 3) := by decide +kernel
theorem dL_law_458 : decode cL_law 458 = .ok (.aload_n 1, 1) := by decide +kernel
theorem dL_law_459 : decode cL_law 459 = .ok (.aload_n 0, 1) := by decide +kernel
theorem dL_law_460 : decode cL_law 460 = .ok (.iload 4, 2) := by decide +kernel
theorem dL_law_462 : decode cL_law 462 = .ok (.iconst 1, 1) := by decide +kernel
theorem dL_law_463 : decode cL_law 463 = .ok (.iadd, 1) := by decide +kernel
theorem dL_law_464 : decode cL_law 464 = .ok (.iaload, 1) := by decide +kernel
theorem dL_law_465 : decode cL_law 465 = .ok (.aload_n 0, 1) := by decide +kernel
theorem dL_law_466 : decode cL_law 466 = .ok (.iload 4, 2) := by decide +kernel
theorem dL_law_468 : decode cL_law 468 = .ok (.iconst 2, 1) := by decide +kernel
theorem dL_law_469 : decode cL_law 469 = .ok (.iadd, 1) := by decide +kernel
theorem dL_law_470 : decode cL_law 470 = .ok (.iaload, 1) := by decide +kernel
theorem dL_law_471 : decode cL_law 471 = .ok (.aload_n 0, 1) := by decide +kernel
theorem dL_law_472 : decode cL_law 472 = .ok (.iload 4, 2) := by decide +kernel
theorem dL_law_474 : decode cL_law 474 = .ok (.iconst 3, 1) := by decide +kernel
theorem dL_law_475 : decode cL_law 475 = .ok (.iadd, 1) := by decide +kernel
theorem dL_law_476 : decode cL_law 476 = .ok (.iaload, 1) := by decide +kernel
theorem dL_law_477 : decode cL_law 477 = .ok (.aload_n 3, 1) := by decide +kernel
theorem dL_law_478 : decode cL_law 478 = .ok (.invokestatic 94, 3) := by decide +kernel
theorem dL_law_481 : decode cL_law 481 = .ok (.istore 5, 2) := by decide +kernel
theorem dL_law_483 : decode cL_law 483 = .ok (.aload_n 2, 1) := by decide +kernel
theorem dL_law_484 : decode cL_law 484 = .ok (.aload_n 0, 1) := by decide +kernel
end
section
theorem dL_law_485 : decode cL_law 485 = .ok (.iload 4, 2) := by decide +kernel
theorem dL_law_487 : decode cL_law 487 = .ok (.iconst 1, 1) := by decide +kernel
theorem dL_law_488 : decode cL_law 488 = .ok (.iadd, 1) := by decide +kernel
theorem dL_law_489 : decode cL_law 489 = .ok (.iaload, 1) := by decide +kernel
theorem dL_law_490 : decode cL_law 490 = .ok (.aload_n 0, 1) := by decide +kernel
theorem dL_law_491 : decode cL_law 491 = .ok (.iload 4, 2) := by decide +kernel
theorem dL_law_493 : decode cL_law 493 = .ok (.iconst 2, 1) := by decide +kernel
theorem dL_law_494 : decode cL_law 494 = .ok (.iadd, 1) := by decide +kernel
theorem dL_law_495 : decode cL_law 495 = .ok (.iaload, 1) := by decide +kernel
theorem dL_law_496 : decode cL_law 496 = .ok (.aload_n 0, 1) := by decide +kernel
theorem dL_law_497 : decode cL_law 497 = .ok (.iload 4, 2) := by decide +kernel
theorem dL_law_499 : decode cL_law 499 = .ok (.iconst 3, 1) := by decide +kernel
theorem dL_law_500 : decode cL_law 500 = .ok (.iadd, 1) := by decide +kernel
theorem dL_law_501 : decode cL_law 501 = .ok (.iaload, 1) := by decide +kernel
theorem dL_law_502 : decode cL_law 502 = .ok (.invokevirtual 96, 3) := by decide +kernel
theorem dL_law_505 : decode cL_law 505 = .ok (.istore 6, 2) := by decide +kernel
theorem dL_law_507 : decode cL_law 507 = .ok (.aload_n 2, 1) := by decide +kernel
theorem dL_law_508 : decode cL_law 508 = .ok (.invokevirtual 79, 3) := by decide +kernel
theorem dL_law_511 : decode cL_law 511 = .ok (.iload 5, 2) := by decide +kernel
theorem dL_law_513 : decode cL_law 513 = .ok (.if_icmp .eq 5, 3) := by decide +kernel
theorem dL_law_516 : decode cL_law 516 = .ok (.iconst 0, 1) := by decide +kernel
theorem dL_law_517 : decode cL_law 517 = .ok (.ireturn, 1) := by decide +kernel
theorem dL_law_518 : decode cL_law 518 = .ok (.iload 5, 2) := by decide +kernel
theorem dL_law_520 : decode cL_law 520 = .ok (.ifCond .ne 15, 3) := by decide +kernel
theorem dL_law_523 : decode cL_law 523 = .ok (.aload_n 3, 1) := by decide +kernel
theorem dL_law_524 : decode cL_law 524 = .ok (.iconst 0, 1) := by decide +kernel
theorem dL_law_525 : decode cL_law 525 = .ok (.laload, 1) := by decide +kernel
theorem dL_law_526 : decode cL_law 526 = .ok (.iload 6, 2) := by decide +kernel
theorem dL_law_528 : decode cL_law 528 = .ok (.i2l, 1) := by decide +kernel
theorem dL_law_529 : decode cL_law 529 = .ok (.lcmp, 1) := by decide +kernel
theorem dL_law_530 : decode cL_law 530 = .ok (.ifCond .eq 5, 3) := by decide +kernel
theorem dL_law_533 : decode cL_law 533 = .ok (.iconst 0, 1) := by decide +kernel
theorem dL_law_534 : decode cL_law 534 = .ok (.ireturn, 1) := by decide +kernel
theorem dL_law_535 : decode cL_law 535 = .ok (.goto 763, 3) := by decide +kernel
theorem dL_law_538 : decode cL_law 538 = .ok (.aload_n 1, 1) := by decide +kernel
theorem dL_law_539 : decode cL_law 539 = .ok (.aload_n 0, 1) := by decide +kernel
theorem dL_law_540 : decode cL_law 540 = .ok (.iload 4, 2) := by decide +kernel
theorem dL_law_542 : decode cL_law 542 = .ok (.iconst 1, 1) := by decide +kernel
theorem dL_law_543 : decode cL_law 543 = .ok (.iadd, 1) := by decide +kernel
theorem dL_law_544 : decode cL_law 544 = .ok (.iaload, 1) := by decide +kernel
theorem dL_law_545 : decode cL_law 545 = .ok (.aload_n 0, 1) := by decide +kernel
theorem dL_law_546 : decode cL_law 546 = .ok (.iload 4, 2) := by decide +kernel
theorem dL_law_548 : decode cL_law 548 = .ok (.iconst 2, 1) := by decide +kernel
theorem dL_law_549 : decode cL_law 549 = .ok (.iadd, 1) := by decide +kernel
theorem dL_law_550 : decode cL_law 550 = .ok (.iaload, 1) := by decide +kernel
theorem dL_law_551 : decode cL_law 551 = .ok (.aload_n 0, 1) := by decide +kernel
theorem dL_law_552 : decode cL_law 552 = .ok (.iload 4, 2) := by decide +kernel
theorem dL_law_554 : decode cL_law 554 = .ok (.iconst 3, 1) := by decide +kernel
theorem dL_law_555 : decode cL_law 555 = .ok (.iadd, 1) := by decide +kernel
theorem dL_law_556 : decode cL_law 556 = .ok (.iaload, 1) := by decide +kernel
theorem dL_law_557 : decode cL_law 557 = .ok (.invokestatic 97, 3) := by decide +kernel
theorem dL_law_560 : decode cL_law 560 = .ok (.istore 5, 2) := by decide +kernel
theorem dL_law_562 : decode cL_law 562 = .ok (.aload_n 2, 1) := by decide +kernel
theorem dL_law_563 : decode cL_law 563 = .ok (.aload_n 0, 1) := by decide +kernel
theorem dL_law_564 : decode cL_law 564 = .ok (.iload 4, 2) := by decide +kernel
theorem dL_law_566 : decode cL_law 566 = .ok (.iconst 1, 1) := by decide +kernel
theorem dL_law_567 : decode cL_law 567 = .ok (.iadd, 1) := by decide +kernel
theorem dL_law_568 : decode cL_law 568 = .ok (.iaload, 1) := by decide +kernel
theorem dL_law_569 : decode cL_law 569 = .ok (.aload_n 0, 1) := by decide +kernel
theorem dL_law_570 : decode cL_law 570 = .ok (.iload 4, 2) := by decide +kernel
theorem dL_law_572 : decode cL_law 572 = .ok (.iconst 2, 1) := by decide +kernel
theorem dL_law_573 : decode cL_law 573 = .ok (.iadd, 1) := by decide +kernel
theorem dL_law_574 : decode cL_law 574 = .ok (.iaload, 1) := by decide +kernel
theorem dL_law_575 : decode cL_law 575 = .ok (.aload_n 0, 1) := by decide +kernel
theorem dL_law_576 : decode cL_law 576 = .ok (.iload 4, 2) := by decide +kernel
theorem dL_law_578 : decode cL_law 578 = .ok (.iconst 3, 1) := by decide +kernel
theorem dL_law_579 : decode cL_law 579 = .ok (.iadd, 1) := by decide +kernel
theorem dL_law_580 : decode cL_law 580 = .ok (.iaload, 1) := by decide +kernel
theorem dL_law_581 : decode cL_law 581 = .ok (.invokevirtual 100, 3) := by decide +kernel
theorem dL_law_584 : decode cL_law 584 = .ok (.aload_n 2, 1) := by decide +kernel
theorem dL_law_585 : decode cL_law 585 = .ok (.invokevirtual 79, 3) := by decide +kernel
theorem dL_law_588 : decode cL_law 588 = .ok (.iload 5, 2) := by decide +kernel
theorem dL_law_590 : decode cL_law 590 = .ok (.if_icmp .eq 5, 3) := by decide +kernel
theorem dL_law_593 : decode cL_law 593 = .ok (.iconst 0, 1) := by decide +kernel
theorem dL_law_594 : decode cL_law 594 = .ok (.ireturn, 1) := by decide +kernel
theorem dL_law_595 : decode cL_law 595 = .ok (.goto 703, 3) := by decide +kernel
theorem dL_law_598 : decode cL_law 598 = .ok (.aload_n 1, 1) := by decide +kernel
theorem dL_law_599 : decode cL_law 599 = .ok (.aload_n 0, 1) := by decide +kernel
theorem dL_law_600 : decode cL_law 600 = .ok (.iload 4, 2) := by decide +kernel
theorem dL_law_602 : decode cL_law 602 = .ok (.iconst 1, 1) := by decide +kernel
theorem dL_law_603 : decode cL_law 603 = .ok (.iadd, 1) := by decide +kernel
theorem dL_law_604 : decode cL_law 604 = .ok (.iaload, 1) := by decide +kernel
theorem dL_law_605 : decode cL_law 605 = .ok (.aload_n 0, 1) := by decide +kernel
theorem dL_law_606 : decode cL_law 606 = .ok (.iload 4, 2) := by decide +kernel
theorem dL_law_608 : decode cL_law 608 = .ok (.iconst 2, 1) := by decide +kernel
theorem dL_law_609 : decode cL_law 609 = .ok (.iadd, 1) := by decide +kernel
theorem dL_law_610 : decode cL_law 610 = .ok (.iaload, 1) := by decide +kernel
theorem dL_law_611 : decode cL_law 611 = .ok (.aload_n 3, 1) := by decide +kernel
theorem dL_law_612 : decode cL_law 612 = .ok (.invokestatic 101, 3) := by decide +kernel
theorem dL_law_615 : decode cL_law 615 = .ok (.istore 5, 2) := by decide +kernel
theorem dL_law_617 : decode cL_law 617 = .ok (.aload_n 2, 1) := by decide +kernel
theorem dL_law_618 : decode cL_law 618 = .ok (.aload_n 0, 1) := by decide +kernel
theorem dL_law_619 : decode cL_law 619 = .ok (.iload 4, 2) := by decide +kernel
theorem dL_law_621 : decode cL_law 621 = .ok (.iconst 1, 1) := by decide +kernel
theorem dL_law_622 : decode cL_law 622 = .ok (.iadd, 1) := by decide +kernel
theorem dL_law_623 : decode cL_law 623 = .ok (.iaload, 1) := by decide +kernel
theorem dL_law_624 : decode cL_law 624 = .ok (.aload_n 0, 1) := by decide +kernel
theorem dL_law_625 : decode cL_law 625 = .ok (.iload 4, 2) := by decide +kernel
theorem dL_law_627 : decode cL_law 627 = .ok (.iconst 2, 1) := by decide +kernel
theorem dL_law_628 : decode cL_law 628 = .ok (.iadd, 1) := by decide +kernel
theorem dL_law_629 : decode cL_law 629 = .ok (.iaload, 1) := by decide +kernel
theorem dL_law_630 : decode cL_law 630 = .ok (.invokevirtual 103, 3) := by decide +kernel
theorem dL_law_633 : decode cL_law 633 = .ok (.istore 6, 2) := by decide +kernel
theorem dL_law_635 : decode cL_law 635 = .ok (.aload_n 2, 1) := by decide +kernel
theorem dL_law_636 : decode cL_law 636 = .ok (.invokevirtual 79, 3) := by decide +kernel
theorem dL_law_639 : decode cL_law 639 = .ok (.iload 5, 2) := by decide +kernel
theorem dL_law_641 : decode cL_law 641 = .ok (.if_icmp .eq 5, 3) := by decide +kernel
theorem dL_law_644 : decode cL_law 644 = .ok (.iconst 0, 1) := by decide +kernel
theorem dL_law_645 : decode cL_law 645 = .ok (.ireturn, 1) := by decide +kernel
theorem dL_law_646 : decode cL_law 646 = .ok (.iload 5, 2) := by decide +kernel
theorem dL_law_648 : decode cL_law 648 = .ok (.ifCond .ne 15, 3) := by decide +kernel
theorem dL_law_651 : decode cL_law 651 = .ok (.aload_n 3, 1) := by decide +kernel
theorem dL_law_652 : decode cL_law 652 = .ok (.iconst 0, 1) := by decide +kernel
theorem dL_law_653 : decode cL_law 653 = .ok (.laload, 1) := by decide +kernel
theorem dL_law_654 : decode cL_law 654 = .ok (.iload 6, 2) := by decide +kernel
theorem dL_law_656 : decode cL_law 656 = .ok (.i2l, 1) := by decide +kernel
theorem dL_law_657 : decode cL_law 657 = .ok (.lcmp, 1) := by decide +kernel
theorem dL_law_658 : decode cL_law 658 = .ok (.ifCond .eq 5, 3) := by decide +kernel
theorem dL_law_661 : decode cL_law 661 = .ok (.iconst 0, 1) := by decide +kernel
theorem dL_law_662 : decode cL_law 662 = .ok (.ireturn, 1) := by decide +kernel
theorem dL_law_663 : decode cL_law 663 = .ok (.goto 635, 3) := by decide +kernel
theorem dL_law_666 : decode cL_law 666 = .ok (.aload_n 1, 1) := by decide +kernel
theorem dL_law_667 : decode cL_law 667 = .ok (.aload_n 0, 1) := by decide +kernel
theorem dL_law_668 : decode cL_law 668 = .ok (.iload 4, 2) := by decide +kernel
theorem dL_law_670 : decode cL_law 670 = .ok (.iconst 1, 1) := by decide +kernel
theorem dL_law_671 : decode cL_law 671 = .ok (.iadd, 1) := by decide +kernel
theorem dL_law_672 : decode cL_law 672 = .ok (.iaload, 1) := by decide +kernel
theorem dL_law_673 : decode cL_law 673 = .ok (.aload_n 0, 1) := by decide +kernel
theorem dL_law_674 : decode cL_law 674 = .ok (.iload 4, 2) := by decide +kernel
theorem dL_law_676 : decode cL_law 676 = .ok (.iconst 2, 1) := by decide +kernel
theorem dL_law_677 : decode cL_law 677 = .ok (.iadd, 1) := by decide +kernel
theorem dL_law_678 : decode cL_law 678 = .ok (.iaload, 1) := by decide +kernel
theorem dL_law_679 : decode cL_law 679 = .ok (.aload_n 0, 1) := by decide +kernel
theorem dL_law_680 : decode cL_law 680 = .ok (.iload 4, 2) := by decide +kernel
theorem dL_law_682 : decode cL_law 682 = .ok (.iconst 3, 1) := by decide +kernel
theorem dL_law_683 : decode cL_law 683 = .ok (.iadd, 1) := by decide +kernel
theorem dL_law_684 : decode cL_law 684 = .ok (.iaload, 1) := by decide +kernel
theorem dL_law_685 : decode cL_law 685 = .ok (.aload_n 0, 1) := by decide +kernel
theorem dL_law_686 : decode cL_law 686 = .ok (.iload 4, 2) := by decide +kernel
theorem dL_law_688 : decode cL_law 688 = .ok (.iconst 4, 1) := by decide +kernel
theorem dL_law_689 : decode cL_law 689 = .ok (.iadd, 1) := by decide +kernel
theorem dL_law_690 : decode cL_law 690 = .ok (.iaload, 1) := by decide +kernel
theorem dL_law_691 : decode cL_law 691 = .ok (.aload_n 0, 1) := by decide +kernel
theorem dL_law_692 : decode cL_law 692 = .ok (.iload 4, 2) := by decide +kernel
theorem dL_law_694 : decode cL_law 694 = .ok (.iconst 5, 1) := by decide +kernel
theorem dL_law_695 : decode cL_law 695 = .ok (.iadd, 1) := by decide +kernel
theorem dL_law_696 : decode cL_law 696 = .ok (.iaload, 1) := by decide +kernel
theorem dL_law_697 : decode cL_law 697 = .ok (.aload_n 3, 1) := by decide +kernel
theorem dL_law_698 : decode cL_law 698 = .ok (.invokestatic 104, 3) := by decide +kernel
theorem dL_law_701 : decode cL_law 701 = .ok (.istore 5, 2) := by decide +kernel
theorem dL_law_703 : decode cL_law 703 = .ok (.aload_n 2, 1) := by decide +kernel
theorem dL_law_704 : decode cL_law 704 = .ok (.aload_n 0, 1) := by decide +kernel
theorem dL_law_705 : decode cL_law 705 = .ok (.iload 4, 2) := by decide +kernel
theorem dL_law_707 : decode cL_law 707 = .ok (.iconst 1, 1) := by decide +kernel
theorem dL_law_708 : decode cL_law 708 = .ok (.iadd, 1) := by decide +kernel
theorem dL_law_709 : decode cL_law 709 = .ok (.iaload, 1) := by decide +kernel
theorem dL_law_710 : decode cL_law 710 = .ok (.aload_n 0, 1) := by decide +kernel
theorem dL_law_711 : decode cL_law 711 = .ok (.iload 4, 2) := by decide +kernel
theorem dL_law_713 : decode cL_law 713 = .ok (.iconst 2, 1) := by decide +kernel
theorem dL_law_714 : decode cL_law 714 = .ok (.iadd, 1) := by decide +kernel
theorem dL_law_715 : decode cL_law 715 = .ok (.iaload, 1) := by decide +kernel
theorem dL_law_716 : decode cL_law 716 = .ok (.aload_n 0, 1) := by decide +kernel
theorem dL_law_717 : decode cL_law 717 = .ok (.iload 4, 2) := by decide +kernel
theorem dL_law_719 : decode cL_law 719 = .ok (.iconst 3, 1) := by decide +kernel
theorem dL_law_720 : decode cL_law 720 = .ok (.iadd, 1) := by decide +kernel
theorem dL_law_721 : decode cL_law 721 = .ok (.iaload, 1) := by decide +kernel
theorem dL_law_722 : decode cL_law 722 = .ok (.aload_n 0, 1) := by decide +kernel
theorem dL_law_723 : decode cL_law 723 = .ok (.iload 4, 2) := by decide +kernel
theorem dL_law_725 : decode cL_law 725 = .ok (.iconst 4, 1) := by decide +kernel
theorem dL_law_726 : decode cL_law 726 = .ok (.iadd, 1) := by decide +kernel
theorem dL_law_727 : decode cL_law 727 = .ok (.iaload, 1) := by decide +kernel
theorem dL_law_728 : decode cL_law 728 = .ok (.aload_n 0, 1) := by decide +kernel
theorem dL_law_729 : decode cL_law 729 = .ok (.iload 4, 2) := by decide +kernel
theorem dL_law_731 : decode cL_law 731 = .ok (.iconst 5, 1) := by decide +kernel
theorem dL_law_732 : decode cL_law 732 = .ok (.iadd, 1) := by decide +kernel
theorem dL_law_733 : decode cL_law 733 = .ok (.iaload, 1) := by decide +kernel
theorem dL_law_734 : decode cL_law 734 = .ok (.invokevirtual 107, 3) := by decide +kernel
theorem dL_law_737 : decode cL_law 737 = .ok (.istore 6, 2) := by decide +kernel
theorem dL_law_739 : decode cL_law 739 = .ok (.aload_n 2, 1) := by decide +kernel
theorem dL_law_740 : decode cL_law 740 = .ok (.invokevirtual 79, 3) := by decide +kernel
theorem dL_law_743 : decode cL_law 743 = .ok (.iload 5, 2) := by decide +kernel
theorem dL_law_745 : decode cL_law 745 = .ok (.if_icmp .eq 5, 3) := by decide +kernel
theorem dL_law_748 : decode cL_law 748 = .ok (.iconst 0, 1) := by decide +kernel
theorem dL_law_749 : decode cL_law 749 = .ok (.ireturn, 1) := by decide +kernel
theorem dL_law_750 : decode cL_law 750 = .ok (.iload 5, 2) := by decide +kernel
theorem dL_law_752 : decode cL_law 752 = .ok (.ifCond .ne 15, 3) := by decide +kernel
theorem dL_law_755 : decode cL_law 755 = .ok (.aload_n 3, 1) := by decide +kernel
theorem dL_law_756 : decode cL_law 756 = .ok (.iconst 0, 1) := by decide +kernel
theorem dL_law_757 : decode cL_law 757 = .ok (.laload, 1) := by decide +kernel
theorem dL_law_758 : decode cL_law 758 = .ok (.iload 6, 2) := by decide +kernel
theorem dL_law_760 : decode cL_law 760 = .ok (.i2l, 1) := by decide +kernel
theorem dL_law_761 : decode cL_law 761 = .ok (.lcmp, 1) := by decide +kernel
theorem dL_law_762 : decode cL_law 762 = .ok (.ifCond .eq 5, 3) := by decide +kernel
theorem dL_law_765 : decode cL_law 765 = .ok (.iconst 0, 1) := by decide +kernel
theorem dL_law_766 : decode cL_law 766 = .ok (.ireturn, 1) := by decide +kernel
theorem dL_law_767 : decode cL_law 767 = .ok (.goto 531, 3) := by decide +kernel
theorem dL_law_770 : decode cL_law 770 = .ok (.aload_n 1, 1) := by decide +kernel
theorem dL_law_771 : decode cL_law 771 = .ok (.aload_n 0, 1) := by decide +kernel
theorem dL_law_772 : decode cL_law 772 = .ok (.iload 4, 2) := by decide +kernel
theorem dL_law_774 : decode cL_law 774 = .ok (.iconst 1, 1) := by decide +kernel
theorem dL_law_775 : decode cL_law 775 = .ok (.iadd, 1) := by decide +kernel
theorem dL_law_776 : decode cL_law 776 = .ok (.iaload, 1) := by decide +kernel
theorem dL_law_777 : decode cL_law 777 = .ok (.aload_n 0, 1) := by decide +kernel
theorem dL_law_778 : decode cL_law 778 = .ok (.iload 4, 2) := by decide +kernel
theorem dL_law_780 : decode cL_law 780 = .ok (.iconst 2, 1) := by decide +kernel
theorem dL_law_781 : decode cL_law 781 = .ok (.iadd, 1) := by decide +kernel
theorem dL_law_782 : decode cL_law 782 = .ok (.iaload, 1) := by decide +kernel
theorem dL_law_783 : decode cL_law 783 = .ok (.aload_n 3, 1) := by decide +kernel
theorem dL_law_784 : decode cL_law 784 = .ok (.invokestatic 108, 3) := by decide +kernel
theorem dL_law_787 : decode cL_law 787 = .ok (.istore 5, 2) := by decide +kernel
theorem dL_law_789 : decode cL_law 789 = .ok (.aload_n 2, 1) := by decide +kernel
theorem dL_law_790 : decode cL_law 790 = .ok (.aload_n 0, 1) := by decide +kernel
theorem dL_law_791 : decode cL_law 791 = .ok (.iload 4, 2) := by decide +kernel
theorem dL_law_793 : decode cL_law 793 = .ok (.iconst 1, 1) := by decide +kernel
theorem dL_law_794 : decode cL_law 794 = .ok (.iadd, 1) := by decide +kernel
theorem dL_law_795 : decode cL_law 795 = .ok (.iaload, 1) := by decide +kernel
theorem dL_law_796 : decode cL_law 796 = .ok (.aload_n 0, 1) := by decide +kernel
theorem dL_law_797 : decode cL_law 797 = .ok (.iload 4, 2) := by decide +kernel
theorem dL_law_799 : decode cL_law 799 = .ok (.iconst 2, 1) := by decide +kernel
theorem dL_law_800 : decode cL_law 800 = .ok (.iadd, 1) := by decide +kernel
theorem dL_law_801 : decode cL_law 801 = .ok (.iaload, 1) := by decide +kernel
theorem dL_law_802 : decode cL_law 802 = .ok (.invokevirtual 110, 3) := by decide +kernel
theorem dL_law_805 : decode cL_law 805 = .ok (.istore 6, 2) := by decide +kernel
theorem dL_law_807 : decode cL_law 807 = .ok (.aload_n 2, 1) := by decide +kernel
theorem dL_law_808 : decode cL_law 808 = .ok (.invokevirtual 79, 3) := by decide +kernel
theorem dL_law_811 : decode cL_law 811 = .ok (.iload 5, 2) := by decide +kernel
theorem dL_law_813 : decode cL_law 813 = .ok (.if_icmp .eq 5, 3) := by decide +kernel
theorem dL_law_816 : decode cL_law 816 = .ok (.iconst 0, 1) := by decide +kernel
theorem dL_law_817 : decode cL_law 817 = .ok (.ireturn, 1) := by decide +kernel
theorem dL_law_818 : decode cL_law 818 = .ok (.iload 5, 2) := by decide +kernel
theorem dL_law_820 : decode cL_law 820 = .ok (.ifCond .ne 22, 3) := by decide +kernel
theorem dL_law_823 : decode cL_law 823 = .ok (.aload_n 3, 1) := by decide +kernel
theorem dL_law_824 : decode cL_law 824 = .ok (.iconst 0, 1) := by decide +kernel
theorem dL_law_825 : decode cL_law 825 = .ok (.laload, 1) := by decide +kernel
theorem dL_law_826 : decode cL_law 826 = .ok (.iload 6, 2) := by decide +kernel
theorem dL_law_828 : decode cL_law 828 = .ok (.ifCond .eq 7, 3) := by decide +kernel
theorem dL_law_831 : decode cL_law 831 = .ok (.lconst 1, 1) := by decide +kernel
theorem dL_law_832 : decode cL_law 832 = .ok (.goto 4, 3) := by decide +kernel
theorem dL_law_835 : decode cL_law 835 = .ok (.lconst 0, 1) := by decide +kernel
theorem dL_law_836 : decode cL_law 836 = .ok (.lcmp, 1) := by decide +kernel
theorem dL_law_837 : decode cL_law 837 = .ok (.ifCond .eq 5, 3) := by decide +kernel
theorem dL_law_840 : decode cL_law 840 = .ok (.iconst 0, 1) := by decide +kernel
theorem dL_law_841 : decode cL_law 841 = .ok (.ireturn, 1) := by decide +kernel
theorem dL_law_842 : decode cL_law 842 = .ok (.goto 456, 3) := by decide +kernel
theorem dL_law_845 : decode cL_law 845 = .ok (.aload_n 1, 1) := by decide +kernel
theorem dL_law_846 : decode cL_law 846 = .ok (.aload_n 0, 1) := by decide +kernel
theorem dL_law_847 : decode cL_law 847 = .ok (.iload 4, 2) := by decide +kernel
theorem dL_law_849 : decode cL_law 849 = .ok (.iconst 1, 1) := by decide +kernel
theorem dL_law_850 : decode cL_law 850 = .ok (.iadd, 1) := by decide +kernel
theorem dL_law_851 : decode cL_law 851 = .ok (.iaload, 1) := by decide +kernel
theorem dL_law_852 : decode cL_law 852 = .ok (.aload_n 0, 1) := by decide +kernel
theorem dL_law_853 : decode cL_law 853 = .ok (.iload 4, 2) := by decide +kernel
theorem dL_law_855 : decode cL_law 855 = .ok (.iconst 2, 1) := by decide +kernel
theorem dL_law_856 : decode cL_law 856 = .ok (.iadd, 1) := by decide +kernel
theorem dL_law_857 : decode cL_law 857 = .ok (.iaload, 1) := by decide +kernel
theorem dL_law_858 : decode cL_law 858 = .ok (.aload_n 3, 1) := by decide +kernel
theorem dL_law_859 : decode cL_law 859 = .ok (.invokestatic 111, 3) := by decide +kernel
theorem dL_law_862 : decode cL_law 862 = .ok (.istore 5, 2) := by decide +kernel
theorem dL_law_864 : decode cL_law 864 = .ok (.aload_n 2, 1) := by decide +kernel
theorem dL_law_865 : decode cL_law 865 = .ok (.aload_n 0, 1) := by decide +kernel
theorem dL_law_866 : decode cL_law 866 = .ok (.iload 4, 2) := by decide +kernel
theorem dL_law_868 : decode cL_law 868 = .ok (.iconst 1, 1) := by decide +kernel
theorem dL_law_869 : decode cL_law 869 = .ok (.iadd, 1) := by decide +kernel
theorem dL_law_870 : decode cL_law 870 = .ok (.iaload, 1) := by decide +kernel
theorem dL_law_871 : decode cL_law 871 = .ok (.aload_n 0, 1) := by decide +kernel
theorem dL_law_872 : decode cL_law 872 = .ok (.iload 4, 2) := by decide +kernel
theorem dL_law_874 : decode cL_law 874 = .ok (.iconst 2, 1) := by decide +kernel
theorem dL_law_875 : decode cL_law 875 = .ok (.iadd, 1) := by decide +kernel
theorem dL_law_876 : decode cL_law 876 = .ok (.iaload, 1) := by decide +kernel
theorem dL_law_877 : decode cL_law 877 = .ok (.invokevirtual 113, 3) := by decide +kernel
theorem dL_law_880 : decode cL_law 880 = .ok (.istore 6, 2) := by decide +kernel
theorem dL_law_882 : decode cL_law 882 = .ok (.aload_n 2, 1) := by decide +kernel
theorem dL_law_883 : decode cL_law 883 = .ok (.invokevirtual 79, 3) := by decide +kernel
theorem dL_law_886 : decode cL_law 886 = .ok (.iload 5, 2) := by decide +kernel
end
section
theorem dL_law_888 : decode cL_law 888 = .ok (.if_icmp .eq 5, 3) := by decide +kernel
theorem dL_law_891 : decode cL_law 891 = .ok (.iconst 0, 1) := by decide +kernel
theorem dL_law_892 : decode cL_law 892 = .ok (.ireturn, 1) := by decide +kernel
theorem dL_law_893 : decode cL_law 893 = .ok (.iload 5, 2) := by decide +kernel
theorem dL_law_895 : decode cL_law 895 = .ok (.ifCond .ne 22, 3) := by decide +kernel
theorem dL_law_898 : decode cL_law 898 = .ok (.aload_n 3, 1) := by decide +kernel
theorem dL_law_899 : decode cL_law 899 = .ok (.iconst 0, 1) := by decide +kernel
theorem dL_law_900 : decode cL_law 900 = .ok (.laload, 1) := by decide +kernel
theorem dL_law_901 : decode cL_law 901 = .ok (.iload 6, 2) := by decide +kernel
theorem dL_law_903 : decode cL_law 903 = .ok (.ifCond .eq 7, 3) := by decide +kernel
theorem dL_law_906 : decode cL_law 906 = .ok (.lconst 1, 1) := by decide +kernel
theorem dL_law_907 : decode cL_law 907 = .ok (.goto 4, 3) := by decide +kernel
theorem dL_law_910 : decode cL_law 910 = .ok (.lconst 0, 1) := by decide +kernel
theorem dL_law_911 : decode cL_law 911 = .ok (.lcmp, 1) := by decide +kernel
theorem dL_law_912 : decode cL_law 912 = .ok (.ifCond .eq 5, 3) := by decide +kernel
theorem dL_law_915 : decode cL_law 915 = .ok (.iconst 0, 1) := by decide +kernel
theorem dL_law_916 : decode cL_law 916 = .ok (.ireturn, 1) := by decide +kernel
theorem dL_law_917 : decode cL_law 917 = .ok (.goto 381, 3) := by decide +kernel
theorem dL_law_920 : decode cL_law 920 = .ok (.aload_n 1, 1) := by decide +kernel
theorem dL_law_921 : decode cL_law 921 = .ok (.aload_n 3, 1) := by decide +kernel
theorem dL_law_922 : decode cL_law 922 = .ok (.invokestatic 114, 3) := by decide +kernel
theorem dL_law_925 : decode cL_law 925 = .ok (.istore 5, 2) := by decide +kernel
theorem dL_law_927 : decode cL_law 927 = .ok (.aload_n 2, 1) := by decide +kernel
theorem dL_law_928 : decode cL_law 928 = .ok (.invokevirtual 117, 3) := by decide +kernel
theorem dL_law_931 : decode cL_law 931 = .ok (.istore 6, 2) := by decide +kernel
theorem dL_law_933 : decode cL_law 933 = .ok (.aload_n 2, 1) := by decide +kernel
theorem dL_law_934 : decode cL_law 934 = .ok (.invokevirtual 79, 3) := by decide +kernel
theorem dL_law_937 : decode cL_law 937 = .ok (.iload 5, 2) := by decide +kernel
theorem dL_law_939 : decode cL_law 939 = .ok (.if_icmp .eq 5, 3) := by decide +kernel
theorem dL_law_942 : decode cL_law 942 = .ok (.iconst 0, 1) := by decide +kernel
theorem dL_law_943 : decode cL_law 943 = .ok (.ireturn, 1) := by decide +kernel
theorem dL_law_944 : decode cL_law 944 = .ok (.iload 5, 2) := by decide +kernel
theorem dL_law_946 : decode cL_law 946 = .ok (.ifCond .ne 15, 3) := by decide +kernel
theorem dL_law_949 : decode cL_law 949 = .ok (.aload_n 3, 1) := by decide +kernel
theorem dL_law_950 : decode cL_law 950 = .ok (.iconst 0, 1) := by decide +kernel
theorem dL_law_951 : decode cL_law 951 = .ok (.laload, 1) := by decide +kernel
theorem dL_law_952 : decode cL_law 952 = .ok (.iload 6, 2) := by decide +kernel
theorem dL_law_954 : decode cL_law 954 = .ok (.i2l, 1) := by decide +kernel
theorem dL_law_955 : decode cL_law 955 = .ok (.lcmp, 1) := by decide +kernel
theorem dL_law_956 : decode cL_law 956 = .ok (.ifCond .eq 5, 3) := by decide +kernel
theorem dL_law_959 : decode cL_law 959 = .ok (.iconst 0, 1) := by decide +kernel
theorem dL_law_960 : decode cL_law 960 = .ok (.ireturn, 1) := by decide +kernel
theorem dL_law_961 : decode cL_law 961 = .ok (.goto 337, 3) := by decide +kernel
theorem dL_law_964 : decode cL_law 964 = .ok (.aload_n 1, 1) := by decide +kernel
theorem dL_law_965 : decode cL_law 965 = .ok (.aload_n 0, 1) := by decide +kernel
theorem dL_law_966 : decode cL_law 966 = .ok (.iload 4, 2) := by decide +kernel
theorem dL_law_968 : decode cL_law 968 = .ok (.iconst 1, 1) := by decide +kernel
theorem dL_law_969 : decode cL_law 969 = .ok (.iadd, 1) := by decide +kernel
theorem dL_law_970 : decode cL_law 970 = .ok (.iaload, 1) := by decide +kernel
theorem dL_law_971 : decode cL_law 971 = .ok (.aload_n 0, 1) := by decide +kernel
theorem dL_law_972 : decode cL_law 972 = .ok (.iload 4, 2) := by decide +kernel
theorem dL_law_974 : decode cL_law 974 = .ok (.iconst 2, 1) := by decide +kernel
theorem dL_law_975 : decode cL_law 975 = .ok (.iadd, 1) := by decide +kernel
theorem dL_law_976 : decode cL_law 976 = .ok (.iaload, 1) := by decide +kernel
theorem dL_law_977 : decode cL_law 977 = .ok (.aload_n 3, 1) := by decide +kernel
theorem dL_law_978 : decode cL_law 978 = .ok (.invokestatic 118, 3) := by decide +kernel
theorem dL_law_981 : decode cL_law 981 = .ok (.istore 5, 2) := by decide +kernel
theorem dL_law_983 : decode cL_law 983 = .ok (.aload_n 2, 1) := by decide +kernel
theorem dL_law_984 : decode cL_law 984 = .ok (.aload_n 0, 1) := by decide +kernel
theorem dL_law_985 : decode cL_law 985 = .ok (.iload 4, 2) := by decide +kernel
theorem dL_law_987 : decode cL_law 987 = .ok (.iconst 1, 1) := by decide +kernel
theorem dL_law_988 : decode cL_law 988 = .ok (.iadd, 1) := by decide +kernel
theorem dL_law_989 : decode cL_law 989 = .ok (.iaload, 1) := by decide +kernel
theorem dL_law_990 : decode cL_law 990 = .ok (.aload_n 0, 1) := by decide +kernel
theorem dL_law_991 : decode cL_law 991 = .ok (.iload 4, 2) := by decide +kernel
theorem dL_law_993 : decode cL_law 993 = .ok (.iconst 2, 1) := by decide +kernel
theorem dL_law_994 : decode cL_law 994 = .ok (.iadd, 1) := by decide +kernel
theorem dL_law_995 : decode cL_law 995 = .ok (.iaload, 1) := by decide +kernel
theorem dL_law_996 : decode cL_law 996 = .ok (.invokevirtual 120, 3) := by decide +kernel
theorem dL_law_999 : decode cL_law 999 = .ok (.istore 6, 2) := by decide +kernel
theorem dL_law_1001 : decode cL_law 1001 = .ok (.aload_n 2, 1) := by decide +kernel
theorem dL_law_1002 : decode cL_law 1002 = .ok (.invokevirtual 79, 3) := by decide +kernel
theorem dL_law_1005 : decode cL_law 1005 = .ok (.iload 5, 2) := by decide +kernel
theorem dL_law_1007 : decode cL_law 1007 = .ok (.if_icmp .eq 5, 3) := by decide +kernel
theorem dL_law_1010 : decode cL_law 1010 = .ok (.iconst 0, 1) := by decide +kernel
theorem dL_law_1011 : decode cL_law 1011 = .ok (.ireturn, 1) := by decide +kernel
theorem dL_law_1012 : decode cL_law 1012 = .ok (.iload 5, 2) := by decide +kernel
theorem dL_law_1014 : decode cL_law 1014 = .ok (.ifCond .ne 15, 3) := by decide +kernel
theorem dL_law_1017 : decode cL_law 1017 = .ok (.aload_n 3, 1) := by decide +kernel
theorem dL_law_1018 : decode cL_law 1018 = .ok (.iconst 0, 1) := by decide +kernel
theorem dL_law_1019 : decode cL_law 1019 = .ok (.laload, 1) := by decide +kernel
theorem dL_law_1020 : decode cL_law 1020 = .ok (.iload 6, 2) := by decide +kernel
theorem dL_law_1022 : decode cL_law 1022 = .ok (.i2l, 1) := by decide +kernel
theorem dL_law_1023 : decode cL_law 1023 = .ok (.lcmp, 1) := by decide +kernel
theorem dL_law_1024 : decode cL_law 1024 = .ok (.ifCond .eq 5, 3) := by decide +kernel
theorem dL_law_1027 : decode cL_law 1027 = .ok (.iconst 0, 1) := by decide +kernel
theorem dL_law_1028 : decode cL_law 1028 = .ok (.ireturn, 1) := by decide +kernel
theorem dL_law_1029 : decode cL_law 1029 = .ok (.goto 269, 3) := by decide +kernel
theorem dL_law_1032 : decode cL_law 1032 = .ok (.aload_n 1, 1) := by decide +kernel
theorem dL_law_1033 : decode cL_law 1033 = .ok (.invokevirtual 121, 3) := by decide +kernel
theorem dL_law_1036 : decode cL_law 1036 = .ok (.aload_n 2, 1) := by decide +kernel
theorem dL_law_1037 : decode cL_law 1037 = .ok (.invokevirtual 125, 3) := by decide +kernel
theorem dL_law_1040 : decode cL_law 1040 = .ok (.lcmp, 1) := by decide +kernel
theorem dL_law_1041 : decode cL_law 1041 = .ok (.ifCond .eq 257, 3) := by decide +kernel
theorem dL_law_1044 : decode cL_law 1044 = .ok (.iconst 0, 1) := by decide +kernel
theorem dL_law_1045 : decode cL_law 1045 = .ok (.ireturn, 1) := by decide +kernel
theorem dL_law_1046 : decode cL_law 1046 = .ok (.aload_n 1, 1) := by decide +kernel
theorem dL_law_1047 : decode cL_law 1047 = .ok (.aload_n 0, 1) := by decide +kernel
theorem dL_law_1048 : decode cL_law 1048 = .ok (.iload 4, 2) := by decide +kernel
theorem dL_law_1050 : decode cL_law 1050 = .ok (.iconst 1, 1) := by decide +kernel
theorem dL_law_1051 : decode cL_law 1051 = .ok (.iadd, 1) := by decide +kernel
theorem dL_law_1052 : decode cL_law 1052 = .ok (.iaload, 1) := by decide +kernel
theorem dL_law_1053 : decode cL_law 1053 = .ok (.aload_n 0, 1) := by decide +kernel
theorem dL_law_1054 : decode cL_law 1054 = .ok (.iload 4, 2) := by decide +kernel
theorem dL_law_1056 : decode cL_law 1056 = .ok (.iconst 2, 1) := by decide +kernel
theorem dL_law_1057 : decode cL_law 1057 = .ok (.iadd, 1) := by decide +kernel
theorem dL_law_1058 : decode cL_law 1058 = .ok (.iaload, 1) := by decide +kernel
theorem dL_law_1059 : decode cL_law 1059 = .ok (.aload_n 0, 1) := by decide +kernel
theorem dL_law_1060 : decode cL_law 1060 = .ok (.iload 4, 2) := by decide +kernel
theorem dL_law_1062 : decode cL_law 1062 = .ok (.iconst 3, 1) := by decide +kernel
theorem dL_law_1063 : decode cL_law 1063 = .ok (.iadd, 1) := by decide +kernel
theorem dL_law_1064 : decode cL_law 1064 = .ok (.iaload, 1) := by decide +kernel
theorem dL_law_1065 : decode cL_law 1065 = .ok (.aload_n 3, 1) := by decide +kernel
theorem dL_law_1066 : decode cL_law 1066 = .ok (.invokestatic 126, 3) := by decide +kernel
theorem dL_law_1069 : decode cL_law 1069 = .ok (.istore 5, 2) := by decide +kernel
theorem dL_law_1071 : decode cL_law 1071 = .ok (.aload_n 2, 1) := by decide +kernel
theorem dL_law_1072 : decode cL_law 1072 = .ok (.aload_n 0, 1) := by decide +kernel
theorem dL_law_1073 : decode cL_law 1073 = .ok (.iload 4, 2) := by decide +kernel
theorem dL_law_1075 : decode cL_law 1075 = .ok (.iconst 1, 1) := by decide +kernel
theorem dL_law_1076 : decode cL_law 1076 = .ok (.iadd, 1) := by decide +kernel
theorem dL_law_1077 : decode cL_law 1077 = .ok (.iaload, 1) := by decide +kernel
theorem dL_law_1078 : decode cL_law 1078 = .ok (.aload_n 0, 1) := by decide +kernel
theorem dL_law_1079 : decode cL_law 1079 = .ok (.iload 4, 2) := by decide +kernel
theorem dL_law_1081 : decode cL_law 1081 = .ok (.iconst 2, 1) := by decide +kernel
theorem dL_law_1082 : decode cL_law 1082 = .ok (.iadd, 1) := by decide +kernel
theorem dL_law_1083 : decode cL_law 1083 = .ok (.iaload, 1) := by decide +kernel
theorem dL_law_1084 : decode cL_law 1084 = .ok (.aload_n 0, 1) := by decide +kernel
theorem dL_law_1085 : decode cL_law 1085 = .ok (.iload 4, 2) := by decide +kernel
theorem dL_law_1087 : decode cL_law 1087 = .ok (.iconst 3, 1) := by decide +kernel
theorem dL_law_1088 : decode cL_law 1088 = .ok (.iadd, 1) := by decide +kernel
theorem dL_law_1089 : decode cL_law 1089 = .ok (.iaload, 1) := by decide +kernel
theorem dL_law_1090 : decode cL_law 1090 = .ok (.invokevirtual 128, 3) := by decide +kernel
theorem dL_law_1093 : decode cL_law 1093 = .ok (.istore 6, 2) := by decide +kernel
theorem dL_law_1095 : decode cL_law 1095 = .ok (.aload_n 2, 1) := by decide +kernel
theorem dL_law_1096 : decode cL_law 1096 = .ok (.invokevirtual 79, 3) := by decide +kernel
theorem dL_law_1099 : decode cL_law 1099 = .ok (.iload 5, 2) := by decide +kernel
theorem dL_law_1101 : decode cL_law 1101 = .ok (.if_icmp .eq 5, 3) := by decide +kernel
theorem dL_law_1104 : decode cL_law 1104 = .ok (.iconst 0, 1) := by decide +kernel
theorem dL_law_1105 : decode cL_law 1105 = .ok (.ireturn, 1) := by decide +kernel
theorem dL_law_1106 : decode cL_law 1106 = .ok (.iload 5, 2) := by decide +kernel
theorem dL_law_1108 : decode cL_law 1108 = .ok (.ifCond .ne 15, 3) := by decide +kernel
theorem dL_law_1111 : decode cL_law 1111 = .ok (.aload_n 3, 1) := by decide +kernel
theorem dL_law_1112 : decode cL_law 1112 = .ok (.iconst 0, 1) := by decide +kernel
theorem dL_law_1113 : decode cL_law 1113 = .ok (.laload, 1) := by decide +kernel
theorem dL_law_1114 : decode cL_law 1114 = .ok (.iload 6, 2) := by decide +kernel
theorem dL_law_1116 : decode cL_law 1116 = .ok (.i2l, 1) := by decide +kernel
theorem dL_law_1117 : decode cL_law 1117 = .ok (.lcmp, 1) := by decide +kernel
theorem dL_law_1118 : decode cL_law 1118 = .ok (.ifCond .eq 5, 3) := by decide +kernel
theorem dL_law_1121 : decode cL_law 1121 = .ok (.iconst 0, 1) := by decide +kernel
theorem dL_law_1122 : decode cL_law 1122 = .ok (.ireturn, 1) := by decide +kernel
theorem dL_law_1123 : decode cL_law 1123 = .ok (.goto 175, 3) := by decide +kernel
theorem dL_law_1126 : decode cL_law 1126 = .ok (.aload_n 1, 1) := by decide +kernel
theorem dL_law_1127 : decode cL_law 1127 = .ok (.aload_n 0, 1) := by decide +kernel
theorem dL_law_1128 : decode cL_law 1128 = .ok (.iload 4, 2) := by decide +kernel
theorem dL_law_1130 : decode cL_law 1130 = .ok (.iconst 1, 1) := by decide +kernel
theorem dL_law_1131 : decode cL_law 1131 = .ok (.iadd, 1) := by decide +kernel
theorem dL_law_1132 : decode cL_law 1132 = .ok (.iaload, 1) := by decide +kernel
theorem dL_law_1133 : decode cL_law 1133 = .ok (.aload_n 0, 1) := by decide +kernel
theorem dL_law_1134 : decode cL_law 1134 = .ok (.iload 4, 2) := by decide +kernel
theorem dL_law_1136 : decode cL_law 1136 = .ok (.iconst 2, 1) := by decide +kernel
theorem dL_law_1137 : decode cL_law 1137 = .ok (.iadd, 1) := by decide +kernel
theorem dL_law_1138 : decode cL_law 1138 = .ok (.iaload, 1) := by decide +kernel
theorem dL_law_1139 : decode cL_law 1139 = .ok (.aload_n 0, 1) := by decide +kernel
theorem dL_law_1140 : decode cL_law 1140 = .ok (.iload 4, 2) := by decide +kernel
theorem dL_law_1142 : decode cL_law 1142 = .ok (.iconst 3, 1) := by decide +kernel
theorem dL_law_1143 : decode cL_law 1143 = .ok (.iadd, 1) := by decide +kernel
theorem dL_law_1144 : decode cL_law 1144 = .ok (.iaload, 1) := by decide +kernel
theorem dL_law_1145 : decode cL_law 1145 = .ok (.aload_n 3, 1) := by decide +kernel
theorem dL_law_1146 : decode cL_law 1146 = .ok (.invokestatic 129, 3) := by decide +kernel
theorem dL_law_1149 : decode cL_law 1149 = .ok (.istore 5, 2) := by decide +kernel
theorem dL_law_1151 : decode cL_law 1151 = .ok (.aload_n 2, 1) := by decide +kernel
theorem dL_law_1152 : decode cL_law 1152 = .ok (.aload_n 0, 1) := by decide +kernel
theorem dL_law_1153 : decode cL_law 1153 = .ok (.iload 4, 2) := by decide +kernel
theorem dL_law_1155 : decode cL_law 1155 = .ok (.iconst 1, 1) := by decide +kernel
theorem dL_law_1156 : decode cL_law 1156 = .ok (.iadd, 1) := by decide +kernel
theorem dL_law_1157 : decode cL_law 1157 = .ok (.iaload, 1) := by decide +kernel
theorem dL_law_1158 : decode cL_law 1158 = .ok (.aload_n 0, 1) := by decide +kernel
theorem dL_law_1159 : decode cL_law 1159 = .ok (.iload 4, 2) := by decide +kernel
theorem dL_law_1161 : decode cL_law 1161 = .ok (.iconst 2, 1) := by decide +kernel
theorem dL_law_1162 : decode cL_law 1162 = .ok (.iadd, 1) := by decide +kernel
theorem dL_law_1163 : decode cL_law 1163 = .ok (.iaload, 1) := by decide +kernel
theorem dL_law_1164 : decode cL_law 1164 = .ok (.aload_n 0, 1) := by decide +kernel
theorem dL_law_1165 : decode cL_law 1165 = .ok (.iload 4, 2) := by decide +kernel
theorem dL_law_1167 : decode cL_law 1167 = .ok (.iconst 3, 1) := by decide +kernel
theorem dL_law_1168 : decode cL_law 1168 = .ok (.iadd, 1) := by decide +kernel
theorem dL_law_1169 : decode cL_law 1169 = .ok (.iaload, 1) := by decide +kernel
theorem dL_law_1170 : decode cL_law 1170 = .ok (.invokevirtual 131, 3) := by decide +kernel
theorem dL_law_1173 : decode cL_law 1173 = .ok (.istore 6, 2) := by decide +kernel
theorem dL_law_1175 : decode cL_law 1175 = .ok (.aload_n 2, 1) := by decide +kernel
theorem dL_law_1176 : decode cL_law 1176 = .ok (.invokevirtual 79, 3) := by decide +kernel
theorem dL_law_1179 : decode cL_law 1179 = .ok (.iload 5, 2) := by decide +kernel
theorem dL_law_1181 : decode cL_law 1181 = .ok (.if_icmp .eq 5, 3) := by decide +kernel
theorem dL_law_1184 : decode cL_law 1184 = .ok (.iconst 0, 1) := by decide +kernel
theorem dL_law_1185 : decode cL_law 1185 = .ok (.ireturn, 1) := by decide +kernel
theorem dL_law_1186 : decode cL_law 1186 = .ok (.iload 5, 2) := by decide +kernel
theorem dL_law_1188 : decode cL_law 1188 = .ok (.ifCond .ne 15, 3) := by decide +kernel
theorem dL_law_1191 : decode cL_law 1191 = .ok (.aload_n 3, 1) := by decide +kernel
theorem dL_law_1192 : decode cL_law 1192 = .ok (.iconst 0, 1) := by decide +kernel
theorem dL_law_1193 : decode cL_law 1193 = .ok (.laload, 1) := by decide +kernel
theorem dL_law_1194 : decode cL_law 1194 = .ok (.iload 6, 2) := by decide +kernel
theorem dL_law_1196 : decode cL_law 1196 = .ok (.i2l, 1) := by decide +kernel
theorem dL_law_1197 : decode cL_law 1197 = .ok (.lcmp, 1) := by decide +kernel
theorem dL_law_1198 : decode cL_law 1198 = .ok (.ifCond .eq 5, 3) := by decide +kernel
theorem dL_law_1201 : decode cL_law 1201 = .ok (.iconst 0, 1) := by decide +kernel
theorem dL_law_1202 : decode cL_law 1202 = .ok (.ireturn, 1) := by decide +kernel
theorem dL_law_1203 : decode cL_law 1203 = .ok (.goto 95, 3) := by decide +kernel
theorem dL_law_1206 : decode cL_law 1206 = .ok (.aload_n 1, 1) := by decide +kernel
theorem dL_law_1207 : decode cL_law 1207 = .ok (.aload_n 0, 1) := by decide +kernel
theorem dL_law_1208 : decode cL_law 1208 = .ok (.iload 4, 2) := by decide +kernel
theorem dL_law_1210 : decode cL_law 1210 = .ok (.iconst 1, 1) := by decide +kernel
theorem dL_law_1211 : decode cL_law 1211 = .ok (.iadd, 1) := by decide +kernel
theorem dL_law_1212 : decode cL_law 1212 = .ok (.iaload, 1) := by decide +kernel
theorem dL_law_1213 : decode cL_law 1213 = .ok (.aload_n 0, 1) := by decide +kernel
theorem dL_law_1214 : decode cL_law 1214 = .ok (.iload 4, 2) := by decide +kernel
theorem dL_law_1216 : decode cL_law 1216 = .ok (.iconst 2, 1) := by decide +kernel
theorem dL_law_1217 : decode cL_law 1217 = .ok (.iadd, 1) := by decide +kernel
theorem dL_law_1218 : decode cL_law 1218 = .ok (.iaload, 1) := by decide +kernel
theorem dL_law_1219 : decode cL_law 1219 = .ok (.aload_n 0, 1) := by decide +kernel
theorem dL_law_1220 : decode cL_law 1220 = .ok (.iload 4, 2) := by decide +kernel
theorem dL_law_1222 : decode cL_law 1222 = .ok (.iconst 3, 1) := by decide +kernel
theorem dL_law_1223 : decode cL_law 1223 = .ok (.iadd, 1) := by decide +kernel
theorem dL_law_1224 : decode cL_law 1224 = .ok (.iaload, 1) := by decide +kernel
theorem dL_law_1225 : decode cL_law 1225 = .ok (.aload_n 0, 1) := by decide +kernel
theorem dL_law_1226 : decode cL_law 1226 = .ok (.iload 4, 2) := by decide +kernel
theorem dL_law_1228 : decode cL_law 1228 = .ok (.iconst 4, 1) := by decide +kernel
theorem dL_law_1229 : decode cL_law 1229 = .ok (.iadd, 1) := by decide +kernel
theorem dL_law_1230 : decode cL_law 1230 = .ok (.iaload, 1) := by decide +kernel
theorem dL_law_1231 : decode cL_law 1231 = .ok (.aload_n 3, 1) := by decide +kernel
theorem dL_law_1232 : decode cL_law 1232 = .ok (.invokestatic 132, 3) := by decide +kernel
theorem dL_law_1235 : decode cL_law 1235 = .ok (.istore 5, 2) := by decide +kernel
theorem dL_law_1237 : decode cL_law 1237 = .ok (.aload_n 2, 1) := by decide +kernel
theorem dL_law_1238 : decode cL_law 1238 = .ok (.aload_n 0, 1) := by decide +kernel
theorem dL_law_1239 : decode cL_law 1239 = .ok (.iload 4, 2) := by decide +kernel
theorem dL_law_1241 : decode cL_law 1241 = .ok (.iconst 1, 1) := by decide +kernel
theorem dL_law_1242 : decode cL_law 1242 = .ok (.iadd, 1) := by decide +kernel
theorem dL_law_1243 : decode cL_law 1243 = .ok (.iaload, 1) := by decide +kernel
theorem dL_law_1244 : decode cL_law 1244 = .ok (.aload_n 0, 1) := by decide +kernel
theorem dL_law_1245 : decode cL_law 1245 = .ok (.iload 4, 2) := by decide +kernel
theorem dL_law_1247 : decode cL_law 1247 = .ok (.iconst 2, 1) := by decide +kernel
theorem dL_law_1248 : decode cL_law 1248 = .ok (.iadd, 1) := by decide +kernel
theorem dL_law_1249 : decode cL_law 1249 = .ok (.iaload, 1) := by decide +kernel
theorem dL_law_1250 : decode cL_law 1250 = .ok (.aload_n 0, 1) := by decide +kernel
theorem dL_law_1251 : decode cL_law 1251 = .ok (.iload 4, 2) := by decide +kernel
theorem dL_law_1253 : decode cL_law 1253 = .ok (.iconst 3, 1) := by decide +kernel
theorem dL_law_1254 : decode cL_law 1254 = .ok (.iadd, 1) := by decide +kernel
theorem dL_law_1255 : decode cL_law 1255 = .ok (.iaload, 1) := by decide +kernel
theorem dL_law_1256 : decode cL_law 1256 = .ok (.aload_n 0, 1) := by decide +kernel
theorem dL_law_1257 : decode cL_law 1257 = .ok (.iload 4, 2) := by decide +kernel
theorem dL_law_1259 : decode cL_law 1259 = .ok (.iconst 4, 1) := by decide +kernel
theorem dL_law_1260 : decode cL_law 1260 = .ok (.iadd, 1) := by decide +kernel
theorem dL_law_1261 : decode cL_law 1261 = .ok (.iaload, 1) := by decide +kernel
theorem dL_law_1262 : decode cL_law 1262 = .ok (.invokevirtual 135, 3) := by decide +kernel
theorem dL_law_1265 : decode cL_law 1265 = .ok (.istore 6, 2) := by decide +kernel
theorem dL_law_1267 : decode cL_law 1267 = .ok (.aload_n 2, 1) := by decide +kernel
theorem dL_law_1268 : decode cL_law 1268 = .ok (.invokevirtual 79, 3) := by decide +kernel
theorem dL_law_1271 : decode cL_law 1271 = .ok (.iload 5, 2) := by decide +kernel
theorem dL_law_1273 : decode cL_law 1273 = .ok (.if_icmp .eq 5, 3) := by decide +kernel
theorem dL_law_1276 : decode cL_law 1276 = .ok (.iconst 0, 1) := by decide +kernel
theorem dL_law_1277 : decode cL_law 1277 = .ok (.ireturn, 1) := by decide +kernel
theorem dL_law_1278 : decode cL_law 1278 = .ok (.iload 5, 2) := by decide +kernel
theorem dL_law_1280 : decode cL_law 1280 = .ok (.ifCond .ne 15, 3) := by decide +kernel
theorem dL_law_1283 : decode cL_law 1283 = .ok (.aload_n 3, 1) := by decide +kernel
theorem dL_law_1284 : decode cL_law 1284 = .ok (.iconst 0, 1) := by decide +kernel
theorem dL_law_1285 : decode cL_law 1285 = .ok (.laload, 1) := by decide +kernel
theorem dL_law_1286 : decode cL_law 1286 = .ok (.iload 6, 2) := by decide +kernel
theorem dL_law_1288 : decode cL_law 1288 = .ok (.i2l, 1) := by decide +kernel
theorem dL_law_1289 : decode cL_law 1289 = .ok (.lcmp, 1) := by decide +kernel
theorem dL_law_1290 : decode cL_law 1290 = .ok (.ifCond .eq 5, 3) := by decide +kernel
theorem dL_law_1293 : decode cL_law 1293 = .ok (.iconst 0, 1) := by decide +kernel
theorem dL_law_1294 : decode cL_law 1294 = .ok (.ireturn, 1) := by decide +kernel
theorem dL_law_1295 : decode cL_law 1295 = .ok (.goto 3, 3) := by decide +kernel
theorem dL_law_1298 : decode cL_law 1298 = .ok (.iinc 4 7, 3) := by decide +kernel
theorem dL_law_1301 : decode cL_law 1301 = .ok (.goto (-1278), 3) := by decide +kernel
theorem dL_law_1304 : decode cL_law 1304 = .ok (.iconst 1, 1) := by decide +kernel
theorem dL_law_1305 : decode cL_law 1305 = .ok (.ireturn, 1) := by decide +kernel
end
section
/-! own rows: numbers as nI, answers of two values as bI, loops, contracts of methods that only read (k_M), that write (k_WQ), that throw (k_XC) -/
def bI (b : Bool) : Int32 := if b then 1 else 0
theorem bI_t : bI true = 1 := rfl
theorem bI_f : bI false = 0 := rfl
theorem bI_0 {b : Bool} : bI b = 0 ↔ b = false := by cases b <;> decide
theorem bI_nar (b : Bool) : narrow .boolean (.int (bI b)) = .int (bI b) := by cases b <;> rfl
theorem nI_inc (a : Nat) : nI a + Int32.ofInt 1 = nI (a + 1) := nI_1 a
theorem nI_ne_m1 {a : Nat} (h : a < 2 ^ 31) : nI a ≠ -1 := by
  intro h1
  have h2 : (nI a).toInt = (-1 : Int32).toInt := by rw [h1]
  rw [nI_toInt h] at h2
  have h3 : (-1 : Int32).toInt = -1 := by decide
  omega
theorem nI_inj {a b : Nat} (ha : a < 2 ^ 31) (hb : b < 2 ^ 31) (h : nI a = nI b) : a = b := (nI_eq ha hb).mp h
def k_Q (v : Option Value) : Array Value → State → Outcome → State → Prop := fun _ st o t => o = .returned v ∧ t.heap = st.heap
def k_P (As : List Value) (B : State → Prop) : Array Value → State → Prop := fun a U => a = As.toArray ∧ B U
def k_N : Addr → Prop := fun _ => False
abbrev k_M (l : Launch) (y : MethodName) (ws : List Cond) (rm : Room) (As : List Value) (B : State → Prop) (v : Option Value) : Prop := Met l y ws rm (k_P As B) (k_Q v) 0 0 k_N
def k_bl (B : State → Prop) : Prop := ∀ (a : Array Value) (U : State) (g : JFrame) (mk : MethodId), B U → B (U.calling g mk a)
def k_tt : State → Prop := fun _ => True
theorem k_bl_tt : k_bl k_tt := fun _ _ _ _ h => h
theorem k_P_bl {As : List Value} {B : State → Prop} (h : k_bl B) : FrameBlind (k_P As B) := fun a U g mk q => ⟨q.1, h a U g mk q.2⟩
def k_B (D : va_G) (w : va_W) (tys : List (ClassId × FieldType)) : State → Prop := fun U => va_P D vwCl w U.heap ∧ va_K D vwCl tys U
theorem k_B_bl {D : va_G} {w : va_W} {tys : List (ClassId × FieldType)} : k_bl (k_B D w tys) := fun a U g mk h => ⟨h.1, va_K.moved (u := U) (U := U.calling g mk a) (Vm.Alike.refl U.vm) h.2⟩
theorem k_B_of {D : va_G} {w : va_W} {tys : List (ClassId × FieldType)} {s : State} {H : Heap} (hP : va_P D vwCl w H) (hK : va_K D vwCl tys s) : ∀ U : State, U.heap = H → s.WarmedH U.vm → k_B D w tys U := fun U hU hW => ⟨by rw [hU]; exact hP, va_K.moved hW.alike hK⟩
def k_A (w : va_W) : Addr → Prop := fun q => ∃ (k : Nat) (e : va_E), w[k]? = some (q, e)
def k_WQ {S : Type} (D : va_G) (w : va_W) (px : S → Prop) (w' : S → va_W) (ans : S → Option Value) : Array Value → State → Outcome → State → Prop := fun _ st o t => ∃ u : S, px u ∧ o = .returned (ans u) ∧ va_P D vwCl (w' u) t.heap ∧ va_F (k_A w) st t
def k_CQ (v : Option Value) (C : Prop) : Array Value → State → Outcome → State → Prop := fun _ st o t => o = .returned v ∧ t.heap = st.heap ∧ C
def k_XC (px : String → Prop) : String → State → State → Prop := fun E st t => px E ∧ va_F k_N st t
theorem k_A_D {w : va_W} {A : Nat → Prop} (h : va_D A w) : va_D (k_A w) w := ⟨h.1, fun k q hk => ⟨k, q.2, hk⟩⟩
theorem k_D_tt {w : va_W} {A : Nat → Prop} (h : va_D A w) : va_D (fun _ => True) w := ⟨h.1, fun _ _ _ => trivial⟩
theorem k_D_map {w w' : va_W} {A : Nat → Prop} (hm : w'.map Prod.fst = w.map Prod.fst) (h : va_D A w) : va_D A w' := by
  have tr : ∀ (k : Nat) (q : Nat × va_E), w'[k]? = some q → ∃ e, w[k]? = some (q.1, e) := by
    intro k q hk
    have h1 : (w'.map Prod.fst)[k]? = some q.1 := by rw [List.getElem?_map, hk]; rfl
    rw [hm, List.getElem?_map] at h1
    cases hw : w[k]? with
    | none => rw [hw] at h1; cases h1
    | some z =>
      rw [hw] at h1
      obtain ⟨z1, z2⟩ := z
      cases h1
      exact ⟨z2, rfl⟩
  refine ⟨fun i j p q hi hj hpq => ?_, fun k q hk => ?_⟩
  · obtain ⟨e1, h1⟩ := tr i p hi
    obtain ⟨e2, h2⟩ := tr j q hj
    exact h.1 i j _ _ h1 h2 hpq
  · obtain ⟨e1, h1⟩ := tr k q hk
    exact h.2 k (q.1, e1) h1
section LIBA
variable {p : Program} {l : Launch} {e : Env} {R : Room} {s : State} {m : MethodId} {args : Array Value} {below : List Frame} {meth : Method} {c : Code} {H : Heap} {locs : List Loc} {cells slots : Nat} {Q : State → Prop}
variable {cc : ByteArray} {pc : Nat} {ls : Array Slot} {rest st0 : List Value}
theorem n_icmp_ge (hexec : p.tables.exec = Jvm.exec) (hb : c.code = cc) {a b : Nat} {off : Int} {tgt : Nat} (hdg : decode cc pc = .ok (.if_icmp .ge off, 3)) (ht : (pc : Int) + off = (tgt : Int)) (ha : a < 2 ^ 31) (hb' : b < 2 ^ 31)
    (kt : b ≤ a → W p l e R s m args below meth c H locs cells slots Q (F0 m tgt ls rest)) (kf : a < b → W p l e R s m args below meth c H locs cells slots Q (F0 m (pc + 3) ls rest)) : W p l e R s m args below meth c H locs cells slots Q (F0 m pc ls (.int (nI b) :: .int (nI a) :: rest)) :=
  lv_icmp_ge hexec hb hdg ht (fun h => kt ((nI_leI hb' ha).mp h)) (fun h => kf (Nat.lt_of_not_le fun q => h ((nI_leI hb' ha).mpr q)))
theorem n_icmp_lt (hexec : p.tables.exec = Jvm.exec) (hb : c.code = cc) {a b : Nat} {off : Int} {tgt : Nat} (hdg : decode cc pc = .ok (.if_icmp .lt off, 3)) (ht : (pc : Int) + off = (tgt : Int)) (ha : a < 2 ^ 31) (hb' : b < 2 ^ 31)
    (kt : a < b → W p l e R s m args below meth c H locs cells slots Q (F0 m tgt ls rest)) (kf : b ≤ a → W p l e R s m args below meth c H locs cells slots Q (F0 m (pc + 3) ls rest)) : W p l e R s m args below meth c H locs cells slots Q (F0 m pc ls (.int (nI b) :: .int (nI a) :: rest)) :=
  lv_icmp_lt hexec hb hdg ht (fun h => kt ((nI_ltI ha hb').mp h)) (fun h => kf (Nat.le_of_not_lt fun q => h ((nI_ltI ha hb').mpr q)))
theorem n_icmp_gt (hexec : p.tables.exec = Jvm.exec) (hb : c.code = cc) {a b : Nat} {off : Int} {tgt : Nat} (hdg : decode cc pc = .ok (.if_icmp .gt off, 3)) (ht : (pc : Int) + off = (tgt : Int)) (ha : a < 2 ^ 31) (hb' : b < 2 ^ 31)
    (kt : b < a → W p l e R s m args below meth c H locs cells slots Q (F0 m tgt ls rest)) (kf : a ≤ b → W p l e R s m args below meth c H locs cells slots Q (F0 m (pc + 3) ls rest)) : W p l e R s m args below meth c H locs cells slots Q (F0 m pc ls (.int (nI b) :: .int (nI a) :: rest)) :=
  lv_icmp_gt hexec hb hdg ht (fun h => kt ((nI_ltI hb' ha).mp h)) (fun h => kf (Nat.le_of_not_lt fun q => h ((nI_ltI hb' ha).mpr q)))
theorem n_icmp_le (hexec : p.tables.exec = Jvm.exec) (hb : c.code = cc) {a b : Nat} {off : Int} {tgt : Nat} (hdg : decode cc pc = .ok (.if_icmp .le off, 3)) (ht : (pc : Int) + off = (tgt : Int)) (ha : a < 2 ^ 31) (hb' : b < 2 ^ 31)
    (kt : a ≤ b → W p l e R s m args below meth c H locs cells slots Q (F0 m tgt ls rest)) (kf : b < a → W p l e R s m args below meth c H locs cells slots Q (F0 m (pc + 3) ls rest)) : W p l e R s m args below meth c H locs cells slots Q (F0 m pc ls (.int (nI b) :: .int (nI a) :: rest)) :=
  lv_icmp_le hexec hb hdg ht (fun h => kt ((nI_leI ha hb').mp h)) (fun h => kf (Nat.lt_of_not_le fun q => h ((nI_leI ha hb').mpr q)))
theorem n_icmp_eq (hexec : p.tables.exec = Jvm.exec) (hb : c.code = cc) {a b : Nat} {off : Int} {tgt : Nat} (hdg : decode cc pc = .ok (.if_icmp .eq off, 3)) (ht : (pc : Int) + off = (tgt : Int)) (ha : a < 2 ^ 31) (hb' : b < 2 ^ 31)
    (kt : a = b → W p l e R s m args below meth c H locs cells slots Q (F0 m tgt ls rest)) (kf : a ≠ b → W p l e R s m args below meth c H locs cells slots Q (F0 m (pc + 3) ls rest)) : W p l e R s m args below meth c H locs cells slots Q (F0 m pc ls (.int (nI b) :: .int (nI a) :: rest)) :=
  lv_icmp_eq hexec hb hdg ht (fun h => kt (nI_inj ha hb' h)) (fun h => kf fun q => h (by rw [q]))
theorem n_icmp_ne (hexec : p.tables.exec = Jvm.exec) (hb : c.code = cc) {a b : Nat} {off : Int} {tgt : Nat} (hdg : decode cc pc = .ok (.if_icmp .ne off, 3)) (ht : (pc : Int) + off = (tgt : Int)) (ha : a < 2 ^ 31) (hb' : b < 2 ^ 31)
    (kt : a ≠ b → W p l e R s m args below meth c H locs cells slots Q (F0 m tgt ls rest)) (kf : a = b → W p l e R s m args below meth c H locs cells slots Q (F0 m (pc + 3) ls rest)) : W p l e R s m args below meth c H locs cells slots Q (F0 m pc ls (.int (nI b) :: .int (nI a) :: rest)) :=
  lv_icmp_ne hexec hb hdg ht (fun h => kt fun q => h (by rw [q])) (fun h => kf (nI_inj ha hb' h))
theorem n_icmp_ne_m1 (hexec : p.tables.exec = Jvm.exec) (hb : c.code = cc) {a : Nat} {off : Int} {tgt : Nat} (hdg : decode cc pc = .ok (.if_icmp .ne off, 3)) (ht : (pc : Int) + off = (tgt : Int)) (ha : a < 2 ^ 31)
    (kt : W p l e R s m args below meth c H locs cells slots Q (F0 m tgt ls rest)) : W p l e R s m args below meth c H locs cells slots Q (F0 m pc ls (.int (-1) :: .int (nI a) :: rest)) :=
  lv_icmp_ne hexec hb hdg ht (fun _ => kt) (fun h => absurd h (nI_ne_m1 ha))
theorem n_icmp_ne_mm (hexec : p.tables.exec = Jvm.exec) (hb : c.code = cc) {x : Int32} {off : Int} {tgt : Nat} (hdg : decode cc pc = .ok (.if_icmp .ne off, 3)) (ht : (pc : Int) + off = (tgt : Int))
    (kf : W p l e R s m args below meth c H locs cells slots Q (F0 m (pc + 3) ls rest)) : W p l e R s m args below meth c H locs cells slots Q (F0 m pc ls (.int x :: .int x :: rest)) :=
  lv_icmp_ne hexec hb hdg ht (fun h => absurd rfl h) (fun _ => kf)
theorem n_icmp_eq_m1 (hexec : p.tables.exec = Jvm.exec) (hb : c.code = cc) {a : Nat} {off : Int} {tgt : Nat} (hdg : decode cc pc = .ok (.if_icmp .eq off, 3)) (ht : (pc : Int) + off = (tgt : Int)) (ha : a < 2 ^ 31)
    (kf : W p l e R s m args below meth c H locs cells slots Q (F0 m (pc + 3) ls rest)) : W p l e R s m args below meth c H locs cells slots Q (F0 m pc ls (.int (-1) :: .int (nI a) :: rest)) :=
  lv_icmp_eq hexec hb hdg ht (fun h => absurd h (nI_ne_m1 ha)) (fun _ => kf)
theorem n_if_lt (hexec : p.tables.exec = Jvm.exec) (hb : c.code = cc) {a : Nat} {off : Int} {tgt : Nat} (hdg : decode cc pc = .ok (.ifCond .lt off, 3)) (ht : (pc : Int) + off = (tgt : Int)) (ha : a < 2 ^ 31)
    (kf : W p l e R s m args below meth c H locs cells slots Q (F0 m (pc + 3) ls rest)) : W p l e R s m args below meth c H locs cells slots Q (F0 m pc ls (.int (nI a) :: rest)) :=
  lv_if_lt hexec hb hdg ht (fun h => absurd h (nI_pos ha)) (fun _ => kf)
theorem n_if_le (hexec : p.tables.exec = Jvm.exec) (hb : c.code = cc) {a : Nat} {off : Int} {tgt : Nat} (hdg : decode cc pc = .ok (.ifCond .le off, 3)) (ht : (pc : Int) + off = (tgt : Int)) (ha : a < 2 ^ 31)
    (kt : a = 0 → W p l e R s m args below meth c H locs cells slots Q (F0 m tgt ls rest)) (kf : 0 < a → W p l e R s m args below meth c H locs cells slots Q (F0 m (pc + 3) ls rest)) : W p l e R s m args below meth c H locs cells slots Q (F0 m pc ls (.int (nI a) :: rest)) :=
  lv_if_le hexec hb hdg ht (fun h => kt (Nat.eq_zero_of_not_pos fun q => nI_nle q ha h)) (fun h => kf (Nat.pos_of_ne_zero fun q => h (by subst q; decide)))
theorem n_if_eq (hexec : p.tables.exec = Jvm.exec) (hb : c.code = cc) {a : Nat} {off : Int} {tgt : Nat} (hdg : decode cc pc = .ok (.ifCond .eq off, 3)) (ht : (pc : Int) + off = (tgt : Int)) (ha : a < 2 ^ 31)
    (kt : a = 0 → W p l e R s m args below meth c H locs cells slots Q (F0 m tgt ls rest)) (kf : 0 < a → W p l e R s m args below meth c H locs cells slots Q (F0 m (pc + 3) ls rest)) : W p l e R s m args below meth c H locs cells slots Q (F0 m pc ls (.int (nI a) :: rest)) :=
  lv_if_eq hexec hb hdg ht (fun h => kt (Nat.eq_zero_of_not_pos fun q => nI_ne0 q ha h)) (fun h => kf (Nat.pos_of_ne_zero fun q => h (by subst q; decide)))
theorem n_if_ne (hexec : p.tables.exec = Jvm.exec) (hb : c.code = cc) {a : Nat} {off : Int} {tgt : Nat} (hdg : decode cc pc = .ok (.ifCond .ne off, 3)) (ht : (pc : Int) + off = (tgt : Int)) (ha : a < 2 ^ 31)
    (kt : 0 < a → W p l e R s m args below meth c H locs cells slots Q (F0 m tgt ls rest)) (kf : a = 0 → W p l e R s m args below meth c H locs cells slots Q (F0 m (pc + 3) ls rest)) : W p l e R s m args below meth c H locs cells slots Q (F0 m pc ls (.int (nI a) :: rest)) :=
  lv_if_ne hexec hb hdg ht (fun h => kt (Nat.pos_of_ne_zero fun q => h (by subst q; decide))) (fun h => kf (Nat.eq_zero_of_not_pos fun q => nI_ne0 q ha h))
theorem b_if_eq (hexec : p.tables.exec = Jvm.exec) (hb : c.code = cc) {b : Bool} {off : Int} {tgt : Nat} (hdg : decode cc pc = .ok (.ifCond .eq off, 3)) (ht : (pc : Int) + off = (tgt : Int))
    (kt : b = false → W p l e R s m args below meth c H locs cells slots Q (F0 m tgt ls rest)) (kf : b = true → W p l e R s m args below meth c H locs cells slots Q (F0 m (pc + 3) ls rest)) : W p l e R s m args below meth c H locs cells slots Q (F0 m pc ls (.int (bI b) :: rest)) :=
  lv_if_eq hexec hb hdg ht (fun h => kt (bI_0.mp h)) (fun h => kf (by cases b with | false => exact absurd rfl h | true => rfl))
theorem b_if_ne (hexec : p.tables.exec = Jvm.exec) (hb : c.code = cc) {b : Bool} {off : Int} {tgt : Nat} (hdg : decode cc pc = .ok (.ifCond .ne off, 3)) (ht : (pc : Int) + off = (tgt : Int))
    (kt : b = true → W p l e R s m args below meth c H locs cells slots Q (F0 m tgt ls rest)) (kf : b = false → W p l e R s m args below meth c H locs cells slots Q (F0 m (pc + 3) ls rest)) : W p l e R s m args below meth c H locs cells slots Q (F0 m pc ls (.int (bI b) :: rest)) :=
  lv_if_ne hexec hb hdg ht (fun h => kt (by cases b with | false => exact absurd rfl h | true => rfl)) (fun h => kf (bI_0.mp h))
/-- a value by another name -/
theorem lv_as {x y : Int32} (h : x = y) (k : W p l e R s m args below meth c H locs cells slots Q (F0 m pc ls (.int y :: rest))) : W p l e R s m args below meth c H locs cells slots Q (F0 m pc ls (.int x :: rest)) := by rw [h]; exact k
theorem W.joinI {pc2 : Nat} {st2 : List Value} (J : Int32 → Prop) (kk : (∀ v : Int32, J v → W p l e R s m args below meth c H locs cells slots Q (F0 m pc2 ls (.int v :: st2))) → W p l e R s m args below meth c H locs cells slots Q (F0 m pc ls rest))
    (kj : ∀ v : Int32, J v → W p l e R s m args below meth c H locs cells slots Q (F0 m pc2 ls (.int v :: st2))) : W p l e R s m args below meth c H locs cells slots Q (F0 m pc ls rest) := kk kj
theorem W.joinL {pc2 : Nat} {st2 : List Value} (J : Array Slot → Prop) (kk : (∀ l2 : Array Slot, J l2 → W p l e R s m args below meth c H locs cells slots Q (F0 m pc2 l2 st2)) → W p l e R s m args below meth c H locs cells slots Q (F0 m pc ls rest))
    (kj : ∀ l2 : Array Slot, J l2 → W p l e R s m args below meth c H locs cells slots Q (F0 m pc2 l2 st2)) : W p l e R s m args below meth c H locs cells slots Q (F0 m pc ls rest) := kk kj
theorem W.loop (I : Nat → Array Slot → Prop) (N i0 : Nat) (h0 : i0 ≤ N) (hI : I i0 ls)
    (hs : ∀ (i : Nat) (l2 : Array Slot), i ≤ N → I i l2 → (∀ l3 : Array Slot, i < N → I (i + 1) l3 → W p l e R s m args below meth c H locs cells slots Q (F0 m pc l3 rest)) → W p l e R s m args below meth c H locs cells slots Q (F0 m pc l2 rest)) : W p l e R s m args below meth c H locs cells slots Q (F0 m pc ls rest) := by
  have key : ∀ (n i : Nat) (l2 : Array Slot), i ≤ N → N - i = n → I i l2 → W p l e R s m args below meth c H locs cells slots Q (F0 m pc l2 rest) := by
    intro n
    induction n with
    | zero => intro i l2 hi hn h; exact hs i l2 hi h (fun l3 hlt _ => absurd hlt (by omega))
    | succ n ih => intro i l2 hi hn h; exact hs i l2 hi h (fun l3 hlt h' => ih (i + 1) l3 (by omega) (by omega) h')
  exact key _ i0 ls h0 rfl hI
theorem W.loopH (I : Nat → Heap → List Loc → Array Slot → Prop) (N i0 : Nat) (h0 : i0 ≤ N) (hI : I i0 H locs ls)
    (hs : ∀ (i : Nat) (H2 : Heap) (o2 : List Loc) (l2 : Array Slot), i ≤ N → I i H2 o2 l2 → (∀ (H3 : Heap) (o3 : List Loc) (l3 : Array Slot), i < N → I (i + 1) H3 o3 l3 → W p l e R s m args below meth c H3 o3 cells slots Q (F0 m pc l3 rest)) → W p l e R s m args below meth c H2 o2 cells slots Q (F0 m pc l2 rest)) : W p l e R s m args below meth c H locs cells slots Q (F0 m pc ls rest) := by
  have key : ∀ (n i : Nat) (H2 : Heap) (o2 : List Loc) (l2 : Array Slot), i ≤ N → N - i = n → I i H2 o2 l2 → W p l e R s m args below meth c H2 o2 cells slots Q (F0 m pc l2 rest) := by
    intro n
    induction n with
    | zero => intro i H2 o2 l2 hi hn h; exact hs i H2 o2 l2 hi h (fun H3 o3 l3 hlt _ => absurd hlt (by omega))
    | succ n ih => intro i H2 o2 l2 hi hn h; exact hs i H2 o2 l2 hi h (fun H3 o3 l3 hlt h' => ih (i + 1) H3 o3 l3 (by omega) (by omega) h')
  exact key _ i0 H locs ls h0 rfl hI
-- arrays of ints, the index a number
theorem n_iald (hexec : p.tables.exec = Jvm.exec) (hb : c.code = cc) {D : va_G} {cl : List vw_C} {tys : List (ClassId × FieldType)} {ws : va_W} {a : Nat} (hK : va_K D cl tys s) (hP : va_P D cl ws H) (q0 t0 : Nat) {cA : ClassId} {n : Nat} {f : Nat → Int32} (ha : ws[q0]? = some (a, .inl (cA, n, .inl f))) (ht : tys[t0]? = some (cA, .int)) {k : Nat} (hk : k < n) (hn : n < 2 ^ 31) (hdg : decode cc pc = .ok (.iaload, 1))
    (kk : W p l e R s m args below meth c H locs cells slots Q (F0 m (pc + 1) ls (.int (f k) :: rest))) : W p l e R s m args below meth c H locs cells slots Q (F0 m pc ls (.int (nI k) :: .ref a :: rest)) :=
  va_iald hexec hb hK hP q0 t0 ha ht (vp_in_nI hk hn) hdg (by rw [nI_clamp (Nat.lt_trans hk hn)]; exact kk)
theorem n_zald (hexec : p.tables.exec = Jvm.exec) (hb : c.code = cc) {D : va_G} {cl : List vw_C} {tys : List (ClassId × FieldType)} {ws : va_W} {a : Nat} (hK : va_K D cl tys s) (hP : va_P D cl ws H) (q0 t0 : Nat) {cA : ClassId} {n : Nat} {f : Nat → Int32} (ha : ws[q0]? = some (a, .inl (cA, n, .inl f))) (ht : tys[t0]? = some (cA, .boolean)) {k : Nat} (hk : k < n) (hn : n < 2 ^ 31) (hdg : decode cc pc = .ok (.baload, 1))
    (kk : W p l e R s m args below meth c H locs cells slots Q (F0 m (pc + 1) ls (.int (f k) :: rest))) : W p l e R s m args below meth c H locs cells slots Q (F0 m pc ls (.int (nI k) :: .ref a :: rest)) :=
  va_zald hexec hb hK hP q0 t0 ha ht (vp_in_nI hk hn) hdg (by rw [nI_clamp (Nat.lt_trans hk hn)]; exact kk)
theorem n_iast (hexec : p.tables.exec = Jvm.exec) (hb : c.code = cc) {D : va_G} {cl : List vw_C} {tys : List (ClassId × FieldType)} {ws : va_W} {A : Nat → Prop} {H0 : Heap} {a : Nat} (hK : va_K D cl tys s) (hP : va_P D cl ws H) (hD : va_D A ws) (hS : va_S A H0 H locs) (q0 t0 : Nat) {cA : ClassId} {n : Nat} {f : Nat → Int32} (ha : ws[q0]? = some (a, .inl (cA, n, .inl f))) (ht : tys[t0]? = some (cA, .int)) {k : Nat} {x : Int32} (hk : k < n) (hn : n < 2 ^ 31) (hdg : decode cc pc = .ok (.iastore, 1))
    (kk : ∀ (H1 : Heap) (locs1 : List Loc), va_P D cl (ws.set q0 (a, .inl (cA, n, .inl (upd f k x)))) H1 → va_D A (ws.set q0 (a, .inl (cA, n, .inl (upd f k x)))) → va_S A H0 H1 locs1 → W p l e R s m args below meth c H1 locs1 cells slots Q (F0 m (pc + 1) ls rest)) : W p l e R s m args below meth c H locs cells slots Q (F0 m pc ls (.int x :: .int (nI k) :: .ref a :: rest)) :=
  va_iast hexec hb hK hP hD hS q0 t0 ha ht (vp_in_nI hk hn) hdg (by rw [nI_clamp (Nat.lt_trans hk hn)]; exact kk)
theorem n_zast (hexec : p.tables.exec = Jvm.exec) (hb : c.code = cc) {D : va_G} {cl : List vw_C} {tys : List (ClassId × FieldType)} {ws : va_W} {A : Nat → Prop} {H0 : Heap} {a : Nat} (hK : va_K D cl tys s) (hP : va_P D cl ws H) (hD : va_D A ws) (hS : va_S A H0 H locs) (q0 t0 : Nat) {cA : ClassId} {n : Nat} {f : Nat → Int32} (ha : ws[q0]? = some (a, .inl (cA, n, .inl f))) (ht : tys[t0]? = some (cA, .boolean)) {k : Nat} {x : Int32} (hx : vp_nar .boolean x = x) (hk : k < n) (hn : n < 2 ^ 31) (hdg : decode cc pc = .ok (.bastore, 1))
    (kk : ∀ (H1 : Heap) (locs1 : List Loc), va_P D cl (ws.set q0 (a, .inl (cA, n, .inl (upd f k x)))) H1 → va_D A (ws.set q0 (a, .inl (cA, n, .inl (upd f k x)))) → va_S A H0 H1 locs1 → W p l e R s m args below meth c H1 locs1 cells slots Q (F0 m (pc + 1) ls rest)) : W p l e R s m args below meth c H locs cells slots Q (F0 m pc ls (.int x :: .int (nI k) :: .ref a :: rest)) :=
  va_zast hexec hb hK hP hD hS q0 t0 ha ht (vp_in_nI hk hn) hdg (by rw [nI_clamp (Nat.lt_trans hk hn), hx]; exact kk)
end LIBA
end
section
/-! own rows: heads, calls, ends -/
section HEADS
variable {l : Launch} {y : MethodName} {ws ws' : List Cond} {rm : Room} {As : List Value} {B : State → Prop} {cc : ByteArray} {maxL mc ms : Nat} {ret : Option FieldType} {Qc : Array Value → State → Outcome → State → Prop} {XC : String → State → State → Prop} {free : Addr → Prop}
theorem k_head (lv : List (Nat × Value)) (hy : plainName y.cls = true) (hw : ws = Cond.code y cc maxL ret :: ws') (hlen : (lg_sl As).length ≤ maxL) (hlv : lv_args 0 As = lv)
    (body : ∀ (p : Program) (e : Env) (s : State) (m : MethodId) (below : List Frame) (meth : Method) (c : Code) (ls : Array Slot), p.tables.exec = Jvm.exec → c.code = cc → meth.sig.returnType = ret → c.maxLocals = maxL → s.vm.findClass y.cls = some m.cls → (∀ w ∈ ws, w.before As.toArray s = true) → meth.locks = false → meth.name = y.name → B s → lv_has ls maxL lv →
      W p l e rm s m As.toArray below meth c s.heap [] 0 0 (MQ below Qc As.toArray s mc ms free) (F0 m 0 ls [])) : Met l y ws rm (k_P As B) Qc mc ms free := by
  refine Met.ofW (cc := cc) (maxL := maxL) (ret := ret) hy hw ?_
  intro p e s m args below meth c s₁ Bd hml hv
  obtain ⟨rfl, hB⟩ := hv
  rw [lg_entry_eq]
  exact body p e s m below meth c _ Bd.exec Bd.bytes Bd.returns hml (findClass_of_methodNamed Bd.named) (atoms_spec (ws := ws) Bd.pre) Bd.notSynchronized (name_of_methodNamed Bd.named Bd.method).1 hB (hlv ▸ lv_entry As hlen)
theorem k_headX (lv : List (Nat × Value)) (hy : plainName y.cls = true) (hw : ws = Cond.code y cc maxL ret :: ws') (hlen : (lg_sl As).length ≤ maxL) (hlv : lv_args 0 As = lv)
    (body : ∀ (p : Program) (e : Env) (s : State) (m : MethodId) (below : List Frame) (meth : Method) (c : Code) (ls : Array Slot), p.tables.exec = Jvm.exec → c.code = cc → meth.sig.returnType = ret → c.maxLocals = maxL → s.vm.findClass y.cls = some m.cls → (∀ w ∈ ws, w.before As.toArray s = true) → meth.locks = false → (∀ x ∈ c.exceptionTable.toList, False) → B s → lv_has ls maxL lv →
      W p l e rm s m As.toArray below meth c s.heap [] 0 0 (vx_MQ below Qc XC As.toArray s mc ms free) (F0 m 0 ls [])) : vx_Met l y ws rm (k_P As B) Qc XC mc ms free := by
  refine vx_ofW (cc := cc) (maxL := maxL) (ret := ret) hy hw ?_
  intro p e s m args below meth c s₁ Bd hml ht hv
  obtain ⟨rfl, hB⟩ := hv
  rw [lg_entry_eq]
  exact body p e s m below meth c _ Bd.exec Bd.bytes Bd.returns hml (findClass_of_methodNamed Bd.named) (atoms_spec (ws := ws) Bd.pre) Bd.notSynchronized ht hB (hlv ▸ lv_entry As hlen)
end HEADS
section LIBC
variable {p : Program} {l : Launch} {e : Env} {R : Room} {s : State} {m : MethodId} {args : Array Value} {below : List Frame} {meth : Method} {c : Code} {H : Heap} {locs : List Loc} {cells slots : Nat} {Q : State → Prop}
variable {y : MethodName} {bytes cc : ByteArray} {maxL nL n index pc : Nat} {ret : Option FieldType} {ws : List Cond} {rm : Room} {Ts : List Cond} {own C : String} {b : Addr} {As rest st0 : List Value} {ls : Array Slot} {B : State → Prop} {v : Option Value} {mc ms : Nat}
theorem k_go {a : Array Value} (hr : va_Run p l e R s m args below meth c H locs cells slots 0 0 (F0 m pc ls st0) rest (k_Q v a) k_N)
    (kk : W p l e R s m args below meth c H locs cells slots Q (F0 m (pc + 3) ls (v.toList ++ rest))) : W p l e R s m args below meth c H locs cells slots Q (F0 m pc ls st0) := by
  intro T hT X
  obtain ⟨v', st₀, t, T', L, h0, X', hL, e1, e2, ⟨hv, hh⟩, st⟩ := hr T hT X
  cases hv
  have hL0 : L = [] := List.eq_nil_iff_forall_not_mem.mpr (fun q hq => hL q hq)
  subst hL0
  rw [List.append_nil] at X'
  obtain ⟨t2, a1, b1⟩ := kk T' (by rw [e1, hh, h0]) X'
  exact ⟨t2, st t2 a1, b1⟩
theorem k_callS (S : CallFix p m c cc nL s args Ts own) (hM : k_M l y ws rm As B v) (cw : CallB R s args own index y bytes maxL ret ws rm 0 0 n ∧ (Cond.static y).before args s = true)
    (hbl : k_bl B) (hB : ∀ U : State, U.heap = H → s.WarmedH U.vm → B U) (hn : As.length = n) (hsize : ls.size = nL) (hst : st0 = As.reverse ++ rest) (hW : (rest.map fun v => v.category).sum ≤ 8) (hdg : decode cc pc = .ok (.invokestatic index, 3)) (hf : cells ≤ R.cells ∧ slots ≤ R.slots)
    (kk : W p l e R s m args below meth c H locs cells slots Q (F0 m (pc + 3) ls (v.toList ++ rest))) : W p l e R s m args below meth c H locs cells slots Q (F0 m pc ls st0) := by
  subst hst
  exact k_go (va_runS (H := H) (locs := locs) (cells := cells) (slots := slots) (g := F0 m pc ls (As.reverse ++ rest)) (rest := rest) S hM cw ⟨k_P_bl hbl, fun U hU hW => ⟨rfl, hB U hU hW⟩⟩ rfl hn hsize rfl (lv_room hW) hdg hf) kk
theorem k_callV (S : CallFix p m c cc nL s args Ts own) (hM : k_M l y ws rm (.ref b :: As) B v) (cw : CallW R s args own C index y bytes maxL ret ws rm 0 0 n)
    (hbl : k_bl B) (hB : ∀ U : State, U.heap = H → s.WarmedH U.vm → B U) (hrec : ∃ cellB : Cell, H[b]? = some cellB ∧ cellB.vm.isStatics = false ∧ s.vm.findClass C = some cellB.cls) (hn : As.length = n) (hsize : ls.size = nL) (hst : st0 = As.reverse ++ .ref b :: rest) (hW : (rest.map fun v => v.category).sum ≤ 8) (hdg : decode cc pc = .ok (.invokevirtual index, 3)) (hf : cells ≤ R.cells ∧ slots ≤ R.slots)
    (kk : W p l e R s m args below meth c H locs cells slots Q (F0 m (pc + 3) ls (v.toList ++ rest))) : W p l e R s m args below meth c H locs cells slots Q (F0 m pc ls st0) := by
  subst hst
  exact k_go (va_runV (H := H) (locs := locs) (cells := cells) (slots := slots) (g := F0 m pc ls (As.reverse ++ .ref b :: rest)) (rest := rest) S hM cw ⟨k_P_bl hbl, hrec, fun U hU hW => ⟨rfl, hB U hU hW⟩⟩ rfl hn hsize rfl (lv_room hW) hdg hf) kk
theorem k_callSi {x : Int32} (S : CallFix p m c cc nL s args Ts own) (hM : k_M l y ws rm As B (some (.int x))) (cw : CallB R s args own index y bytes maxL ret ws rm 0 0 n ∧ (Cond.static y).before args s = true)
    (hbl : k_bl B) (hB : ∀ U : State, U.heap = H → s.WarmedH U.vm → B U) (hn : As.length = n) (hsize : ls.size = nL) (hst : st0 = As.reverse ++ rest) (hW : (rest.map fun v => v.category).sum ≤ 8) (hdg : decode cc pc = .ok (.invokestatic index, 3)) (hf : cells ≤ R.cells ∧ slots ≤ R.slots)
    (kk : W p l e R s m args below meth c H locs cells slots Q (F0 m (pc + 3) ls (.int x :: rest))) : W p l e R s m args below meth c H locs cells slots Q (F0 m pc ls st0) := k_callS S hM cw hbl hB hn hsize hst hW hdg hf kk
theorem k_callVi {x : Int32} (S : CallFix p m c cc nL s args Ts own) (hM : k_M l y ws rm (.ref b :: As) B (some (.int x))) (cw : CallW R s args own C index y bytes maxL ret ws rm 0 0 n)
    (hbl : k_bl B) (hB : ∀ U : State, U.heap = H → s.WarmedH U.vm → B U) (hrec : ∃ cellB : Cell, H[b]? = some cellB ∧ cellB.vm.isStatics = false ∧ s.vm.findClass C = some cellB.cls) (hn : As.length = n) (hsize : ls.size = nL) (hst : st0 = As.reverse ++ .ref b :: rest) (hW : (rest.map fun v => v.category).sum ≤ 8) (hdg : decode cc pc = .ok (.invokevirtual index, 3)) (hf : cells ≤ R.cells ∧ slots ≤ R.slots)
    (kk : W p l e R s m args below meth c H locs cells slots Q (F0 m (pc + 3) ls (.int x :: rest))) : W p l e R s m args below meth c H locs cells slots Q (F0 m pc ls st0) := k_callV S hM cw hbl hB hrec hn hsize hst hW hdg hf kk
-- a callee that writes its world w, which lies at places of the caller's ws
theorem k_goW {a : Array Value} {S : Type} {D : va_G} {w : va_W} {px : S → Prop} {w' : S → va_W} {ans : S → Option Value} (hr : va_Run p l e R s m args below meth c H locs cells slots mc ms (F0 m pc ls st0) rest (k_WQ D w px w' ans a) (k_A w))
    {A : Nat → Prop} {H0 : Heap} {wc wr : va_W} (hP : va_P D vwCl wc H) (hD : va_D A wc) (hS : va_S A H0 H locs) (isR isC : List Nat) (hmap : (isR ++ isC).map (fun i => wc[i]?) = (wr ++ w).map some) (hnd : va_nd (isR ++ isC) = true) (hm : ∀ u, (w' u).map Prod.fst = w.map Prod.fst)
    (kk : ∀ (u : S) (H1 : Heap) (locs1 : List Loc), px u → va_P D vwCl (wr ++ w' u) H1 → va_D A (wr ++ w' u) → va_S A H0 H1 locs1 → H.size ≤ H1.size → (∀ q : Nat, q < H.size → ¬ k_A w q → H1[q]? = H[q]?) → W p l e R s m args below meth c H1 locs1 (cells + mc) (slots + ms) Q (F0 m (pc + 3) ls ((ans u).toList ++ rest))) : W p l e R s m args below meth c H locs cells slots Q (F0 m pc ls st0) := by
  have hDrw : va_D A (wr ++ w) := hD.sub (isR ++ isC) hnd hmap
  have hPrw : va_P D vwCl (wr ++ w) H := by
    intro k q hk
    have h1 : ((isR ++ isC).map (fun i => wc[i]?))[k]? = some (some q) := by rw [hmap, List.getElem?_map, hk]; rfl
    rw [List.getElem?_map] at h1
    cases hi : (isR ++ isC)[k]? with
    | none => rw [hi] at h1; cases h1
    | some i => rw [hi] at h1; exact hP i q (Option.some.inj h1)
  have hAA : ∀ q, k_A w q → A q := by
    rintro q ⟨k, e, hk⟩
    have h1 : (wr ++ w)[wr.length + k]? = some (q, e) := by rw [List.getElem?_append_right (Nat.le_add_right _ _), Nat.add_sub_cancel_left]; exact hk
    exact hDrw.2 _ _ h1
  intro T hT X
  obtain ⟨v', st₀, t, T', L, h0, X', hL, e1, e2, ⟨u, hp, hv, hP1, hF⟩, st⟩ := hr T hT X
  cases hv
  obtain ⟨k1, k2, k3⟩ := vx_keep h0 e1 hS (fun q _ h => hAA q h) hAA hL hF
  have hPr : va_P D vwCl wr T'.heap := by
    intro k q hk
    have h1 : (wr ++ w)[k]? = some q := by
      have hlt : k < wr.length := (List.getElem?_eq_some_iff.mp hk).1
      rw [List.getElem?_append_left hlt]; exact hk
    have h2 := hPrw k q h1
    refine h2.kept (k2 q.1 h2.lt ?_)
    rintro ⟨j, e, hj⟩
    have h3 : (wr ++ w)[wr.length + j]? = some (q.1, e) := by rw [List.getElem?_append_right (Nat.le_add_right _ _), Nat.add_sub_cancel_left]; exact hj
    have h4 := hDrw.1 k (wr.length + j) q (q.1, e) h1 h3 rfl
    have hlt : k < wr.length := (List.getElem?_eq_some_iff.mp hk).1
    omega
  have hP2 : va_P D vwCl (wr ++ w' u) T'.heap := va_P.app hPr (by rw [e1]; exact hP1)
  have hD2 : va_D A (wr ++ w' u) := k_D_map (w := wr ++ w) (by rw [List.map_append, List.map_append, hm u]) hDrw
  obtain ⟨t2, a1, b1⟩ := kk u T'.heap (locs ++ L) hp hP2 hD2 k3 k1 k2 T' rfl X'
  exact ⟨t2, st t2 a1, b1⟩
theorem k_callVW {S : Type} {D : va_G} {w : va_W} {px : S → Prop} {w' : S → va_W} {ans : S → Option Value} (F : CallFix p m c cc nL s args Ts own) (hM : Met l y ws rm (k_P (.ref b :: As) B) (k_WQ D w px w' ans) mc ms (k_A w)) (cw : CallW R s args own C index y bytes maxL ret ws rm mc ms n)
    (hbl : k_bl B) (hB : ∀ U : State, U.heap = H → s.WarmedH U.vm → B U) (hrec : ∃ cellB : Cell, H[b]? = some cellB ∧ cellB.vm.isStatics = false ∧ s.vm.findClass C = some cellB.cls) (hn : As.length = n) (hsize : ls.size = nL) (hst : st0 = As.reverse ++ .ref b :: rest) (hW : (rest.map fun v => v.category).sum ≤ 8) (hdg : decode cc pc = .ok (.invokevirtual index, 3)) (hf : cells + mc ≤ R.cells ∧ slots + ms ≤ R.slots)
    {A : Nat → Prop} {H0 : Heap} {wc wr : va_W} (hP : va_P D vwCl wc H) (hD : va_D A wc) (hS : va_S A H0 H locs) (isR isC : List Nat) (hmap : (isR ++ isC).map (fun i => wc[i]?) = (wr ++ w).map some) (hnd : va_nd (isR ++ isC) = true) (hm : ∀ u, (w' u).map Prod.fst = w.map Prod.fst)
    (kk : ∀ (u : S) (H1 : Heap) (locs1 : List Loc), px u → va_P D vwCl (wr ++ w' u) H1 → va_D A (wr ++ w' u) → va_S A H0 H1 locs1 → H.size ≤ H1.size → (∀ q : Nat, q < H.size → ¬ k_A w q → H1[q]? = H[q]?) → W p l e R s m args below meth c H1 locs1 (cells + mc) (slots + ms) Q (F0 m (pc + 3) ls ((ans u).toList ++ rest))) : W p l e R s m args below meth c H locs cells slots Q (F0 m pc ls st0) := by
  subst hst
  exact k_goW (va_runV (H := H) (locs := locs) (cells := cells) (slots := slots) (g := F0 m pc ls (As.reverse ++ .ref b :: rest)) (rest := rest) F hM cw ⟨k_P_bl hbl, hrec, fun U hU hW => ⟨rfl, hB U hU hW⟩⟩ rfl hn hsize rfl (lv_room hW) hdg hf) hP hD hS isR isC hmap hnd hm kk
theorem k_callSW {S : Type} {D : va_G} {w : va_W} {px : S → Prop} {w' : S → va_W} {ans : S → Option Value} (F : CallFix p m c cc nL s args Ts own) (hM : Met l y ws rm (k_P As B) (k_WQ D w px w' ans) mc ms (k_A w)) (cw : CallB R s args own index y bytes maxL ret ws rm mc ms n ∧ (Cond.static y).before args s = true)
    (hbl : k_bl B) (hB : ∀ U : State, U.heap = H → s.WarmedH U.vm → B U) (hn : As.length = n) (hsize : ls.size = nL) (hst : st0 = As.reverse ++ rest) (hW : (rest.map fun v => v.category).sum ≤ 8) (hdg : decode cc pc = .ok (.invokestatic index, 3)) (hf : cells + mc ≤ R.cells ∧ slots + ms ≤ R.slots)
    {A : Nat → Prop} {H0 : Heap} {wc wr : va_W} (hP : va_P D vwCl wc H) (hD : va_D A wc) (hS : va_S A H0 H locs) (isR isC : List Nat) (hmap : (isR ++ isC).map (fun i => wc[i]?) = (wr ++ w).map some) (hnd : va_nd (isR ++ isC) = true) (hm : ∀ u, (w' u).map Prod.fst = w.map Prod.fst)
    (kk : ∀ (u : S) (H1 : Heap) (locs1 : List Loc), px u → va_P D vwCl (wr ++ w' u) H1 → va_D A (wr ++ w' u) → va_S A H0 H1 locs1 → H.size ≤ H1.size → (∀ q : Nat, q < H.size → ¬ k_A w q → H1[q]? = H[q]?) → W p l e R s m args below meth c H1 locs1 (cells + mc) (slots + ms) Q (F0 m (pc + 3) ls ((ans u).toList ++ rest))) : W p l e R s m args below meth c H locs cells slots Q (F0 m pc ls st0) := by
  subst hst
  exact k_goW (va_runS (H := H) (locs := locs) (cells := cells) (slots := slots) (g := F0 m pc ls (As.reverse ++ rest)) (rest := rest) F hM cw ⟨k_P_bl hbl, fun U hU hW => ⟨rfl, hB U hU hW⟩⟩ rfl hn hsize rfl (lv_room hW) hdg hf) hP hD hS isR isC hmap hnd hm kk
-- ends
theorem k_iret {x y0 : Int32} (hx : p.tables.exec = Jvm.exec) (hb : c.code = cc) (hr : meth.sig.returnType = some .int) (hlocks : meth.locks = false) (hdg : decode cc pc = .ok (.ireturn, 1)) (hv : x = y0) : W p l e R s m args below meth c s.heap [] 0 0 (MQ below (k_Q (some (.int y0))) args s 0 0 k_N) (F0 m pc ls [.int x]) := by
  subst hv
  exact W.iret hx hb hr (fun t ht hW => ⟨rfl, ht⟩) (fun q hq => nomatch hq) hdg hlocks
theorem k_zret {x : Int32} {b0 : Bool} (hx : p.tables.exec = Jvm.exec) (hb : c.code = cc) (hr : meth.sig.returnType = some .boolean) (hlocks : meth.locks = false) (hdg : decode cc pc = .ok (.ireturn, 1)) (hv : x = bI b0) : W p l e R s m args below meth c s.heap [] 0 0 (MQ below (k_Q (some (.int (bI b0)))) args s 0 0 k_N) (F0 m pc ls [.int x]) := by
  subst hv
  exact W.zret hx hb hr (bI_nar b0) (fun t ht hW => ⟨rfl, ht⟩) (fun q hq => nomatch hq) hdg hlocks
theorem k_vretC {Cp : Prop} (hx : p.tables.exec = Jvm.exec) (hb : c.code = cc) (hr : meth.sig.returnType = none) (hlocks : meth.locks = false) (hdg : decode cc pc = .ok (.return_, 1)) (hc : Cp) {px : String → Prop} (h1 : cells ≤ mc) (h2 : slots ≤ ms) : W p l e R s m args below meth c s.heap [] cells slots (vx_MQ below (k_CQ none Cp) (k_XC px) args s mc ms k_N) (F0 m pc ls []) := by
  refine W.widen (k := mc) (n := ms) h1 h2 (vx_ret ?_)
  exact W.vret hx hb hr (fun t ht hW => ⟨rfl, ht, hc⟩) (fun q hq => nomatch hq) hdg hlocks
theorem k_wiret {S : Type} {D : va_G} {w : va_W} {px : S → Prop} {w' : S → va_W} {ans : S → Option Value} (u : S) {x : Int32} (hx : p.tables.exec = Jvm.exec) (hb : c.code = cc) (hr : meth.sig.returnType = some .int) (hlocks : meth.locks = false) (hdg : decode cc pc = .ok (.ireturn, 1)) (hp : px u) (ha : ans u = some (.int x)) (hP : va_P D vwCl (w' u) H) (hS : va_S (k_A w) s.heap H locs) (h1 : cells ≤ mc) (h2 : slots ≤ ms) : W p l e R s m args below meth c H locs cells slots (MQ below (k_WQ D w px w' ans) args s mc ms (k_A w)) (F0 m pc ls [.int x]) := by
  refine W.widen (k := mc) (n := ms) h1 h2 ?_
  exact W.iret hx hb hr (fun t ht hW => ⟨u, hp, by rw [ha], by rw [ht]; exact hP, hS.F ht⟩) hS.2.2 hdg hlocks
theorem k_wzret {S : Type} {D : va_G} {w : va_W} {px : S → Prop} {w' : S → va_W} {ans : S → Option Value} (u : S) {x : Int32} (b0 : Bool) (hx : p.tables.exec = Jvm.exec) (hb : c.code = cc) (hr : meth.sig.returnType = some .boolean) (hlocks : meth.locks = false) (hdg : decode cc pc = .ok (.ireturn, 1)) (hv : x = bI b0) (hp : px u) (ha : ans u = some (.int x)) (hP : va_P D vwCl (w' u) H) (hS : va_S (k_A w) s.heap H locs) (h1 : cells ≤ mc) (h2 : slots ≤ ms) : W p l e R s m args below meth c H locs cells slots (MQ below (k_WQ D w px w' ans) args s mc ms (k_A w)) (F0 m pc ls [.int x]) := by
  refine W.widen (k := mc) (n := ms) h1 h2 ?_
  exact W.zret hx hb hr (by rw [hv]; exact bI_nar b0) (fun t ht hW => ⟨u, hp, by rw [ha], by rw [ht]; exact hP, hS.F ht⟩) hS.2.2 hdg hlocks
theorem k_wlret {S : Type} {D : va_G} {w : va_W} {px : S → Prop} {w' : S → va_W} {ans : S → Option Value} (u : S) {x : Int64} (hx : p.tables.exec = Jvm.exec) (hb : c.code = cc) (hr : meth.sig.returnType = some .long) (hlocks : meth.locks = false) (hdg : decode cc pc = .ok (.lreturn, 1)) (hp : px u) (ha : ans u = some (.long x)) (hP : va_P D vwCl (w' u) H) (hS : va_S (k_A w) s.heap H locs) (h1 : cells ≤ mc) (h2 : slots ≤ ms) : W p l e R s m args below meth c H locs cells slots (MQ below (k_WQ D w px w' ans) args s mc ms (k_A w)) (F0 m pc ls [.long x]) := by
  refine W.widen (k := mc) (n := ms) h1 h2 ?_
  exact W.lret hx hb hr (fun t ht hW => ⟨u, hp, by rw [ha], by rw [ht]; exact hP, hS.F ht⟩) hS.2.2 hdg hlocks
theorem k_wvret {S : Type} {D : va_G} {w : va_W} {px : S → Prop} {w' : S → va_W} {ans : S → Option Value} (u : S) (hx : p.tables.exec = Jvm.exec) (hb : c.code = cc) (hr : meth.sig.returnType = none) (hlocks : meth.locks = false) (hdg : decode cc pc = .ok (.return_, 1)) (hp : px u) (ha : ans u = none) (hP : va_P D vwCl (w' u) H) (hS : va_S (k_A w) s.heap H locs) (h1 : cells ≤ mc) (h2 : slots ≤ ms) : W p l e R s m args below meth c H locs cells slots (MQ below (k_WQ D w px w' ans) args s mc ms (k_A w)) (F0 m pc ls []) := by
  refine W.widen (k := mc) (n := ms) h1 h2 ?_
  exact W.vret hx hb hr (fun t ht hW => ⟨u, hp, by rw [ha], by rw [ht]; exact hP, hS.F ht⟩) hS.2.2 hdg hlocks
end LIBC
end
section
/-! own rows: what a throw needs of a state (k_ex), the throw, a call of a method that throws -/
abbrev k_IO : String := "java/lang/IndexOutOfBoundsException"
abbrev k_IA : String := "java/lang/IllegalArgumentException"
abbrev k_IS : String := "java/lang/IllegalStateException"
abbrev k_nms : List String := ["java/lang/RuntimeException", "java/lang/Exception"]
def k_nw : List Cond := [.declares (Bundle.initS "java/lang/RuntimeException"), .declares (Bundle.initS "java/lang/Exception"), .declares (Bundle.initS Bundle.tN), .castable k_IO k_IO, .castable k_IA k_IA, .castable k_IS k_IS]
def k_strs : List (Nat × String) := [(73, "no such space"), (100, "no such distance"), (107, "too wide for any plate"), (129, "no such number of steps"), (137, "no such glyph"), (140, "no such place"), (142, "no such exit"), (144, "no such number of glyphs"), (146, "no such text"), (152, "no such cell"), (159, "no such line")]
def k_ex : State → Prop := fun U => vx_Zq Bundle.tN "UNASSIGNED_STACK" Bundle.steD k_N U U.heap ∧ vx_Zq Bundle.tN "SUPPRESSED_SENTINEL" Bundle.listD k_N U U.heap ∧ (∀ w ∈ k_nw, va_Nw w U) ∧ ∀ q ∈ k_strs, ∃ sa, vk_R RX0 q.1 q.2 sa U
theorem k_nw_ot : ∀ w ∈ k_nw, w.onTables = true := by decide
theorem k_ex_bl : k_bl k_ex := fun a U g mk h => ⟨vx_Zq.moved (u := U) (U := U.calling g mk a) (Vm.Alike.refl U.vm) h.1, vx_Zq.moved (u := U) (U := U.calling g mk a) (Vm.Alike.refl U.vm) h.2.1, fun w hw => va_Nw.same (u := U) (k_nw_ot w hw) rfl (h.2.2.1 w hw), fun q hq => (h.2.2.2 q hq).imp fun sa hs => vk_R.same (u := U) rfl hs⟩
theorem k_nw_warm {s U : State} (hW : s.WarmedH U.vm) (h : ∀ w ∈ k_nw, va_Nw w s) : ∀ w ∈ k_nw, va_Nw w U := by
  intro w hw
  have h0 := h w hw
  simp only [k_nw, List.mem_cons, List.not_mem_nil, or_false] at hw
  rcases hw with rfl | rfl | rfl | rfl | rfl | rfl
  · exact va_Nw.warmD hW h0
  · exact va_Nw.warmD hW h0
  · exact va_Nw.warmD hW h0
  · exact va_Nw.warmC hW h0
  · exact va_Nw.warmC hW h0
  · exact va_Nw.warmC hW h0
theorem k_ex_of {s : State} (h : k_ex s) : ∀ U : State, U.heap = s.heap → s.WarmedH U.vm → k_ex U := fun U hU hW => ⟨by rw [hU]; exact vx_Zq.moved hW.alike h.1, by rw [hU]; exact vx_Zq.moved hW.alike h.2.1, k_nw_warm hW h.2.2.1, fun q hq => (h.2.2.2 q hq).imp fun sa hs => vk_R.warm hW hs⟩
theorem k_ex_and {B : State → Prop} (h : k_bl B) : k_bl (fun U => B U ∧ k_ex U) := fun a U g mk q => ⟨h a U g mk q.1, k_ex_bl a U g mk q.2⟩
theorem k_gdIO : ∀ w ∈ Cond.classLink RX0 135 k_IO :: Cond.initialized k_IO :: vx_atS RX0 139 k_IO k_nms, vx_ot w = true := by decide +kernel
theorem k_gdIA : ∀ w ∈ Cond.classLink RX0 71 k_IA :: Cond.initialized k_IA :: vx_atS RX0 75 k_IA k_nms, vx_ot w = true := by decide +kernel
theorem k_gdIS : ∀ w ∈ Cond.classLink RX0 105 k_IS :: Cond.initialized k_IS :: vx_atS RX0 109 k_IS k_nms, vx_ot w = true := by decide +kernel
theorem k_ngIO : ∀ w ∈ (vx_atS RX0 139 k_IO k_nms).filter (fun w => !goodWord w), w ∈ k_nw := by decide +kernel
theorem k_ngIA : ∀ w ∈ (vx_atS RX0 75 k_IA k_nms).filter (fun w => !goodWord w), w ∈ k_nw := by decide +kernel
theorem k_ngIS : ∀ w ∈ (vx_atS RX0 109 k_IS k_nms).filter (fun w => !goodWord w), w ∈ k_nw := by decide +kernel
section KTHROW
variable {p : Program} {l : Launch} {e : Env} {R : Room} {s : State} {m : MethodId} {args : Array Value} {below : List Frame} {meth : Method} {c : Code} {cells slots : Nat}
variable {cc : ByteArray} {pc mc ms : Nat} {ls : Array Slot} {rest : List Value} {Qc : Array Value → State → Outcome → State → Prop} {px : String → Prop} {free : Addr → Prop}
theorem k_throw (hexec : p.tables.exec = Jvm.exec) (hb : c.code = cc) (hl : l.stackTraces = false) {cls text : String} {ik is ic : Nat}
    (hown : s.vm.findClass RX0 = some m.cls) (hcls : Bundle.fit cls = true) (hk : (Cond.classLink RX0 ik cls).before args s = true) (hini : (Cond.initialized cls).before args s = true) (hex : k_ex s) (hstr : (is, text) ∈ k_strs)
    (h1 : ∀ w ∈ (vx_atS RX0 ic cls k_nms).filter goodWord, w.before args s = true) (hng : ∀ w ∈ (vx_atS RX0 ic cls k_nms).filter (fun w => !goodWord w), w ∈ k_nw) (hgood : ∀ w ∈ Cond.classLink RX0 ik cls :: Cond.initialized cls :: vx_atS RX0 ic cls k_nms, vx_ot w = true)
    (hsize : ls.size = c.maxLocals) (d0 : decode cc pc = .ok (.new ik, 3)) (d3 : decode cc (pc + 3) = .ok (.dup, 1)) (d4 : decode cc (pc + 4) = .ok (.ldc is, 2)) (d6 : decode cc (pc + 6) = .ok (.invokespecial ic, 3)) (d9 : decode cc (pc + 9) = .ok (.athrow, 1))
    (ht : ∀ x ∈ c.exceptionTable.toList, False) (hRf : 5 < R.frames) (hRl : (rest.map fun v => v.category).sum + 82 ≤ R.locals) (hRc : cells + 1 ≤ R.cells) (hRs : slots + 6 ≤ R.slots) (hlocks : meth.locks = false) (hpx : px cls) (hc : cells + 1 ≤ mc) (hs : slots + 6 ≤ ms) :
    W p l e R s m args below meth c s.heap [] cells slots (vx_MQ below Qc (k_XC px) args s mc ms free) (F0 m pc ls rest) := by
  obtain ⟨sa, hsa⟩ := hex.2.2.2 _ hstr
  exact vx_throwS (A := k_N) (names := k_nms) hexec hb hl hown hcls (by decide) hk hini hsa (vx_hat h1 hng (fun w hw => va_Nw.use (k_nw_ot w hw) (hex.2.2.1 w hw))) hgood hex.1 hex.2.1 va_S.rf hsize d0 d3 d4 d6 d9 (fun x hx => (ht x hx).elim) hRf (by show _ + (13 * (2 + 1) + 43) ≤ _; omega) hRc hRs hlocks
    (fun t _ h2 h3 => ⟨hpx, h2, fun q h4 _ => h3 q h4⟩) (fun z hz => nomatch hz) hc hs
end KTHROW
section KREQ
variable {p : Program} {l : Launch} {e : Env} {R : Room} {s : State} {m : MethodId} {args : Array Value} {below : List Frame} {meth : Method} {c : Code} {H : Heap} {locs : List Loc} {cells slots : Nat}
variable {y : MethodName} {bytes cc : ByteArray} {maxL nL n index pc : Nat} {ret : Option FieldType} {ws : List Cond} {rm : Room} {Ts : List Cond} {own C : String} {b : Addr} {As rest st0 : List Value} {ls : Array Slot} {B : State → Prop} {v : Option Value} {mc ms mc' ms' : Nat} {Cp : Prop} {px px' : String → Prop} {Qc : Array Value → State → Outcome → State → Prop} {free : Addr → Prop}
theorem k_goX {a : Array Value} (hr : vx_Run p l e R s m args below meth c s.heap [] cells slots mc ms (F0 m pc ls st0) rest (k_CQ v Cp a) (k_XC px) k_N) (hpx : ∀ E, px E → px' E) (ht : ∀ x ∈ c.exceptionTable.toList, False) (hlocks : meth.locks = false) (hc : cells + mc ≤ mc') (hs : slots + ms ≤ ms')
    (kk : Cp → W p l e R s m args below meth c s.heap [] (cells + mc) (slots + ms) (vx_MQ below Qc (k_XC px') args s mc' ms' free) (F0 m (pc + 3) ls (v.toList ++ rest))) : W p l e R s m args below meth c s.heap [] cells slots (vx_MQ below Qc (k_XC px') args s mc' ms' free) (F0 m pc ls st0) := by
  intro T hT X
  rcases hr T hT X with ⟨v', st₀, t, T', L, h0, X', hL, e1, e2, ⟨hv, hh, hC⟩, st⟩ | ⟨q, st₀, t, T', L, E, ce, h0, X', hL, e1, e2, ⟨hp, hF⟩, hce, hcv, hcl, st⟩
  · cases hv
    have hL0 : L = [] := List.eq_nil_iff_forall_not_mem.mpr (fun q hq => hL q hq)
    subst hL0
    rw [List.append_nil] at X'
    obtain ⟨t2, a1, b1⟩ := kk hC T' (by rw [e1, hh, h0]) X'
    exact ⟨t2, st t2 a1, b1⟩
  · have hL0 : L = [] := List.eq_nil_iff_forall_not_mem.mpr (fun q hq => hL q hq)
    subst hL0
    rw [List.append_nil] at X'
    obtain ⟨f1, f2⟩ := hF
    rw [h0] at f1 f2
    have ko : vx_W p l e R s m args below meth c T'.heap [] (cells + mc) (slots + ms) (vx_MQ below Qc (k_XC px') args s mc' ms' free) (F0 m pc ls rest) q :=
      vx_out (fun x hx => (ht x hx).elim) hlocks (by rw [e1]; exact hce) hcv hcl (fun t1 h1 h2 => ⟨hpx E hp, by rw [h1, e1]; exact f1, fun q h3 h4 => by rw [h1, e1]; exact f2 q h3 h4⟩) (fun z hz => nomatch hz) hc hs
    obtain ⟨t2, a1, b1⟩ := ko T' rfl X'
    exact ⟨t2, st.trans a1, b1⟩
theorem k_reqS (S : CallFix p m c cc nL s args Ts own) (hM : vx_Met l y ws rm (k_P As B) (k_CQ v Cp) (k_XC px) mc ms k_N) (cw : CallB R s args own index y bytes maxL ret ws rm mc ms n ∧ (Cond.static y).before args s = true)
    (hbl : k_bl B) (hB : ∀ U : State, U.heap = s.heap → s.WarmedH U.vm → B U) (hn : As.length = n) (hsize : ls.size = nL) (hst : st0 = As.reverse ++ rest) (hW : (rest.map fun v => v.category).sum ≤ 8) (hdg : decode cc pc = .ok (.invokestatic index, 3)) (hf : cells + mc ≤ R.cells ∧ slots + ms ≤ R.slots)
    (hpx : ∀ E, px E → px' E) (ht : ∀ x ∈ c.exceptionTable.toList, False) (hlocks : meth.locks = false) (hc : cells + mc ≤ mc') (hs : slots + ms ≤ ms')
    (kk : Cp → W p l e R s m args below meth c s.heap [] (cells + mc) (slots + ms) (vx_MQ below Qc (k_XC px') args s mc' ms' free) (F0 m (pc + 3) ls (v.toList ++ rest))) : W p l e R s m args below meth c s.heap [] cells slots (vx_MQ below Qc (k_XC px') args s mc' ms' free) (F0 m pc ls st0) := by
  subst hst
  exact k_goX (vx_runS (H := s.heap) (locs := []) (cells := cells) (slots := slots) (g := F0 m pc ls (As.reverse ++ rest)) (rest := rest) S hM cw ⟨k_P_bl hbl, fun U hU hW => ⟨rfl, hB U hU hW⟩⟩ rfl hn hsize rfl (lv_room hW) hdg hf) hpx ht hlocks hc hs kk
theorem k_reqV (S : CallFix p m c cc nL s args Ts own) (hM : vx_Met l y ws rm (k_P (.ref b :: As) B) (k_CQ v Cp) (k_XC px) mc ms k_N) (cw : CallW R s args own C index y bytes maxL ret ws rm mc ms n)
    (hbl : k_bl B) (hB : ∀ U : State, U.heap = s.heap → s.WarmedH U.vm → B U) (hrec : ∃ cellB : Cell, s.heap[b]? = some cellB ∧ cellB.vm.isStatics = false ∧ s.vm.findClass C = some cellB.cls) (hn : As.length = n) (hsize : ls.size = nL) (hst : st0 = As.reverse ++ .ref b :: rest) (hW : (rest.map fun v => v.category).sum ≤ 8) (hdg : decode cc pc = .ok (.invokevirtual index, 3)) (hf : cells + mc ≤ R.cells ∧ slots + ms ≤ R.slots)
    (hpx : ∀ E, px E → px' E) (ht : ∀ x ∈ c.exceptionTable.toList, False) (hlocks : meth.locks = false) (hc : cells + mc ≤ mc') (hs : slots + ms ≤ ms')
    (kk : Cp → W p l e R s m args below meth c s.heap [] (cells + mc) (slots + ms) (vx_MQ below Qc (k_XC px') args s mc' ms' free) (F0 m (pc + 3) ls (v.toList ++ rest))) : W p l e R s m args below meth c s.heap [] cells slots (vx_MQ below Qc (k_XC px') args s mc' ms' free) (F0 m pc ls st0) := by
  subst hst
  exact k_goX (vx_runV (H := s.heap) (locs := []) (cells := cells) (slots := slots) (g := F0 m pc ls (As.reverse ++ .ref b :: rest)) (rest := rest) S hM cw ⟨k_P_bl hbl, hrec, fun U hU hW => ⟨rfl, hB U hU hW⟩⟩ rfl hn hsize rfl (lv_room hW) hdg hf) hpx ht hlocks hc hs kk
end KREQ
end
section
/-! plain facts on numbers and arrays, to paste: each family by itself; over the kit's rows on nI and upd -/
/-! ===== order of ints, in all its forms, and through longs ===== -/
theorem fa_lt (a b : Int32) : a < b ↔ a.toInt < b.toInt := Int32.lt_iff_toInt_lt
theorem fa_le (a b : Int32) : a ≤ b ↔ a.toInt ≤ b.toInt := Int32.le_iff_toInt_le
theorem fa_eq (a b : Int32) : a = b ↔ a.toInt = b.toInt := Int32.toInt_inj.symm
theorem fa_lt64 (a b : Int64) : a < b ↔ a.toInt < b.toInt := Int64.lt_iff_toInt_lt
theorem fa_le64 (a b : Int64) : a ≤ b ↔ a.toInt ≤ b.toInt := Int64.le_iff_toInt_le
theorem fa_eq64 (a b : Int64) : a = b ↔ a.toInt = b.toInt := Int64.toInt_inj.symm
/-- a comparison of two ints taken as longs -/
theorem fa_wide_lt (a b : Int32) : a.toInt64 < b.toInt64 ↔ a < b := by rw [fa_lt64, fa_lt, Int32.toInt_toInt64, Int32.toInt_toInt64]
theorem fa_wide_le (a b : Int32) : a.toInt64 ≤ b.toInt64 ↔ a ≤ b := by rw [fa_le64, fa_le, Int32.toInt_toInt64, Int32.toInt_toInt64]
theorem fa_wide_eq (a b : Int32) : a.toInt64 = b.toInt64 ↔ a = b := by rw [fa_eq64, fa_eq, Int32.toInt_toInt64, Int32.toInt_toInt64]
/-- one strict comparison gives all the others -/
theorem fa_of_lt {a b : Int32} (h : a < b) : a ≤ b ∧ ¬ b ≤ a ∧ ¬ b < a ∧ a ≠ b ∧ b ≠ a := by
  rw [fa_lt] at h
  refine ⟨?_, ?_, ?_, ?_, ?_⟩
  · rw [fa_le]; omega
  · rw [fa_le]; omega
  · rw [fa_lt]; omega
  · intro e; rw [fa_eq] at e; omega
  · intro e; rw [fa_eq] at e; omega
theorem fa_of_nlt {a b : Int32} (h : ¬ a < b) : b ≤ a := by
  rw [fa_lt] at h
  rw [fa_le]
  omega
theorem fa_of_nle {a b : Int32} (h : ¬ a ≤ b) : b < a := by
  rw [fa_le] at h
  rw [fa_lt]
  omega
theorem fa_le_ne {a b : Int32} (h : a ≤ b) (h2 : a ≠ b) : a < b := by
  rw [fa_le] at h
  rw [fa_lt]
  have h3 : a.toInt ≠ b.toInt := fun e => h2 ((fa_eq a b).mpr e)
  omega
theorem fa_three (a b : Int32) : a < b ∨ a = b ∨ b < a := by
  rw [fa_lt, fa_lt, fa_eq]
  omega
theorem fa_trans {a b c : Int32} (h : a < b) (h2 : b ≤ c) : a < c := by
  rw [fa_lt] at *
  rw [fa_le] at h2
  omega
/-! ===== small literals as numbers ===== -/
theorem fa_lit (n : Nat) : (OfNat.ofNat n : Int32) = nI n := rfl
theorem fa_litL (n : Nat) : (OfNat.ofNat n : Int64) = lN n := rfl
/-! ===== bits of a number: 'or', masks, one bit ===== -/
theorem fa_and (a b : Nat) : nI a &&& nI b = nI (a &&& b) := by
  apply Int32.toBitVec_inj.1
  show BitVec.ofNat 32 a &&& BitVec.ofNat 32 b = BitVec.ofNat 32 (a &&& b)
  apply BitVec.eq_of_getLsbD_eq
  intro i hi
  simp [hi]
theorem fa_or (a b : Nat) : nI a ||| nI b = nI (a ||| b) := by
  apply Int32.toBitVec_inj.1
  show BitVec.ofNat 32 a ||| BitVec.ofNat 32 b = BitVec.ofNat 32 (a ||| b)
  apply BitVec.eq_of_getLsbD_eq
  intro i hi
  simp [hi]
/-- a remainder by a power of two, as a mask -/
theorem fa_mask (n k : Nat) : nI n &&& nI (2 ^ k - 1) = nI (n % 2 ^ k) := by rw [fa_and, Nat.and_two_pow_sub_one_eq_mod]
/-- 'or' of a high part and a low one that don't meet is their sum -/
theorem fa_or_sum {a k : Nat} (b : Nat) (h : a < 2 ^ k) : nI (2 ^ k * b) ||| nI a = nI (2 ^ k * b + a) := by rw [fa_or, Nat.two_pow_add_eq_or_of_lt h]
/-- one bit, by 'and' with a power of two -/
theorem fa_bit {n j : Nat} (hj : j < 31) : nI n &&& nI (2 ^ j) = 0 ↔ n.testBit j = false := by
  have h2 : (2 : Nat) ^ j < 2 ^ 31 := Nat.pow_lt_pow_right (by decide) hj
  have hle : n &&& 2 ^ j ≤ 2 ^ j := Nat.and_le_right
  have e : n &&& 2 ^ j = 0 ↔ n.testBit j = false := by
    constructor
    · intro h
      have h1 : (n &&& 2 ^ j).testBit j = false := by rw [h]; simp
      rw [Nat.testBit_and] at h1
      first | simpa using h1 | simpa [Nat.testBit_two_pow_self] using h1 | simpa [Nat.testBit_two_pow] using h1
    · intro h
      apply Nat.eq_of_testBit_eq
      intro i
      rw [Nat.testBit_and]
      by_cases hi : j = i
      · subst hi; simp [h]
      · first | (simp [Nat.testBit_two_pow, hi]; done) | (simp [Nat.testBit_two_pow_of_ne hi]; done)
  rw [fa_and]
  constructor
  · intro h
    apply e.mp
    rcases Nat.eq_zero_or_pos (n &&& 2 ^ j) with z | z
    · exact z
    · exact absurd h (nI_ne0 z (Nat.lt_of_le_of_lt hle h2))
  · intro h
    rw [e.mpr h]; exact nI_0
/-- a remainder by a power of two of a number that isn't negative, as Java divides -/
theorem fa_rem {a k : Nat} (ha : a < 2 ^ 31) (hk : k < 31) : nI a - nI a / nI (2 ^ k) * nI (2 ^ k) = nI (a % 2 ^ k) := pk_rem ha (Nat.two_pow_pos k) (Nat.pow_lt_pow_right (by decide) hk)
/-! ===== cuts to a byte, a short ===== -/
theorem fa_byte_xor (x y : Int32) : (x ^^^ y).toInt8 = x.toInt8 ^^^ y.toInt8 := by
  apply Int8.toBitVec_inj.1
  apply BitVec.eq_of_getLsbD_eq
  intro i hi
  first | (simp [hi]; done) | (simp [hi, BitVec.getLsbD_setWidth, BitVec.getLsbD_signExtend]; done)
theorem fa_short_xor (x y : Int32) : (x ^^^ y).toInt16 = x.toInt16 ^^^ y.toInt16 := by
  apply Int16.toBitVec_inj.1
  apply BitVec.eq_of_getLsbD_eq
  intro i hi
  first | (simp [hi]; done) | (simp [hi, BitVec.getLsbD_setWidth, BitVec.getLsbD_signExtend]; done)
/-- the cut to a byte sees the low byte alone -/
theorem fa_byte_low (x : Int32) : (x &&& 255).toInt8 = x.toInt8 := by
  apply Int8.toBitVec_inj.1
  apply BitVec.eq_of_getLsbD_eq
  intro i hi
  have h2 : (255 : Int32).toBitVec.getLsbD i = true := by
    have : ∀ j : Fin 8, (255 : Int32).toBitVec.getLsbD j.val = true := by decide +kernel
    exact this ⟨i, hi⟩
  have h4 : (x &&& 255).toBitVec.getLsbD i = x.toBitVec.getLsbD i := by
    show (x.toBitVec &&& (255 : Int32).toBitVec).getLsbD i = _
    rw [BitVec.getLsbD_and, h2, Bool.and_true]
  have h3 : i < 32 := by omega
  first
    | (show (((x &&& 255).toBitVec).signExtend 8).getLsbD i = (x.toBitVec.signExtend 8).getLsbD i; rw [BitVec.getLsbD_signExtend, BitVec.getLsbD_signExtend, if_pos h3, if_pos h3, h4])
    | (show (((x &&& 255).toBitVec).setWidth 8).getLsbD i = (x.toBitVec.setWidth 8).getLsbD i; rw [BitVec.getLsbD_setWidth, BitVec.getLsbD_setWidth, h4])
    | (simp [hi, h3, h4]; done)
theorem fa_short_low (x : Int32) : (x &&& 65535).toInt16 = x.toInt16 := by
  apply Int16.toBitVec_inj.1
  apply BitVec.eq_of_getLsbD_eq
  intro i hi
  have h2 : (65535 : Int32).toBitVec.getLsbD i = true := by
    have : ∀ j : Fin 16, (65535 : Int32).toBitVec.getLsbD j.val = true := by decide +kernel
    exact this ⟨i, hi⟩
  have h4 : (x &&& 65535).toBitVec.getLsbD i = x.toBitVec.getLsbD i := by
    show (x.toBitVec &&& (65535 : Int32).toBitVec).getLsbD i = _
    rw [BitVec.getLsbD_and, h2, Bool.and_true]
  have h3 : i < 32 := by omega
  first
    | (show (((x &&& 65535).toBitVec).signExtend 16).getLsbD i = (x.toBitVec.signExtend 16).getLsbD i; rw [BitVec.getLsbD_signExtend, BitVec.getLsbD_signExtend, if_pos h3, if_pos h3, h4])
    | (show (((x &&& 65535).toBitVec).setWidth 16).getLsbD i = (x.toBitVec.setWidth 16).getLsbD i; rw [BitVec.getLsbD_setWidth, BitVec.getLsbD_setWidth, h4])
    | (simp [hi, h3, h4]; done)
/-- a small number is its own byte, its own short -/
theorem fa_byte_small {n : Nat} (h : n < 128) : (nI n).toInt8.toInt32 = nI n := by
  have : ∀ j : Fin 128, (nI j.val).toInt8.toInt32 = nI j.val := by decide +kernel
  exact this ⟨n, h⟩
/-! ===== absolute difference ===== -/
theorem fa_absdiff {a b : Nat} (ha : a < 2 ^ 31) (hb : b < 2 ^ 31) : (if nI a < nI b then nI b - nI a else nI a - nI b) = nI (if a < b then b - a else a - b) := by
  by_cases h : a < b
  · rw [if_pos (nI_lt h hb), if_pos h]
    exact pk_sub (Nat.le_of_lt h)
  · rw [if_neg (nI_nlt (Nat.le_of_not_lt h) ha), if_neg h]
    exact pk_sub (Nat.le_of_not_lt h)
/-! ===== an array behind i stores, a conditional store, a row copied ===== -/
/-- f where k < i, what stood there else -/
def fa_fill {α : Type} (f g : Nat → α) (i : Nat) : Nat → α := fun k => if k < i then f k else g k
theorem fa_fill_0 {α : Type} (f g : Nat → α) : fa_fill f g 0 = g := funext fun k => if_neg (Nat.not_lt_zero k)
theorem fa_fill_in {α : Type} {f g : Nat → α} {i k : Nat} (h : k < i) : fa_fill f g i k = f k := if_pos h
theorem fa_fill_out {α : Type} {f g : Nat → α} {i k : Nat} (h : i ≤ k) : fa_fill f g i k = g k := if_neg (Nat.not_lt.mpr h)
theorem fa_fill_succ (f g : Nat → Int32) (i : Nat) : upd (fa_fill f g i) i (f i) = fa_fill f g (i + 1) := by
  funext k
  by_cases e : k = i
  · subst e
    rw [pk_us]
    exact (if_pos (Nat.lt_succ_self k)).symm
  · rw [pk_un e]
    by_cases h : k < i
    · rw [fa_fill_in h, fa_fill_in (Nat.lt_succ_of_lt h)]
    · rw [fa_fill_out (Nat.le_of_not_lt h), fa_fill_out (by omega)]
/-- a store that changes nothing -/
theorem fa_upd_same {f : Nat → Int32} {i : Nat} {x : Int32} (h : f i = x) : upd f i x = f := by
  funext k
  by_cases e : k = i
  · subst e
    rw [pk_us, h]
  · rw [pk_un e]
/-- a store under a condition, told as one -/
theorem fa_upd_if (c : Prop) [Decidable c] (f : Nat → Int32) (i : Nat) (x : Int32) : (if c then upd f i x else f) = upd f i (if c then x else f i) := by
  by_cases h : c
  · rw [if_pos h, if_pos h]
  · rw [if_neg h, if_neg h, fa_upd_same rfl]
/-- two stores at one place, at two -/
theorem fa_upd_twice (f : Nat → Int32) (i : Nat) (x y : Int32) : upd (upd f i x) i y = upd f i y := by
  funext k
  by_cases e : k = i
  · subst e
    rw [pk_us, pk_us]
  · rw [pk_un e, pk_un e, pk_un e]
theorem fa_upd_swap (f : Nat → Int32) {i j : Nat} (h : i ≠ j) (x y : Int32) : upd (upd f i x) j y = upd (upd f j y) i x := by
  funext k
  by_cases e : k = i
  · subst e
    rw [pk_un h, pk_us, pk_us]
  · by_cases e2 : k = j
    · subst e2
      rw [pk_us, pk_un e, pk_us]
    · rw [pk_un e2, pk_un e, pk_un e, pk_un e2]
/-! ===== the first index with a property; a count ===== -/
/-- the first k < n with p k, n if there is none -/
def fa_first (p : Nat → Bool) : Nat → Nat
  | 0 => 0
  | n + 1 => if fa_first p n < n then fa_first p n else if p n then n else n + 1
theorem fa_first_le (p : Nat → Bool) : ∀ n, fa_first p n ≤ n
  | 0 => Nat.le_refl 0
  | n + 1 => by
    have ih := fa_first_le p n
    unfold fa_first
    split
    · omega
    · split
      · omega
      · omega
theorem fa_first_no (p : Nat → Bool) : ∀ n k, k < fa_first p n → p k = false
  | 0, k, h => absurd h (Nat.not_lt_zero k)
  | n + 1, k, h => by
    have ih := fa_first_no p n
    have hl := fa_first_le p n
    unfold fa_first at h
    split at h
    · exact ih k h
    · rename_i h1
      split at h
      · exact ih k (by omega)
      · rename_i h2
        by_cases e : k = n
        · subst e
          exact Bool.eq_false_iff.mpr h2
        · exact ih k (by omega)
theorem fa_first_yes (p : Nat → Bool) : ∀ n, fa_first p n < n → p (fa_first p n) = true
  | 0, h => absurd h (Nat.not_lt_zero _)
  | n + 1, h => by
    have ih := fa_first_yes p n
    have hl := fa_first_le p n
    unfold fa_first at h ⊢
    split at h
    · rename_i h1
      rw [if_pos h1]
      exact ih h1
    · rename_i h1
      rw [if_neg h1]
      split at h
      · rename_i h2
        rw [if_pos h2]
        exact h2
      · omega
/-- how many k < n have p k -/
def fa_cnt (p : Nat → Bool) : Nat → Nat
  | 0 => 0
  | n + 1 => fa_cnt p n + if p n then 1 else 0
theorem fa_cnt_le (p : Nat → Bool) : ∀ n, fa_cnt p n ≤ n
  | 0 => Nat.le_refl 0
  | n + 1 => by
    have ih := fa_cnt_le p n
    unfold fa_cnt
    split
    · omega
    · omega
theorem fa_cnt_yes {p : Nat → Bool} {n : Nat} (h : p n = true) : fa_cnt p (n + 1) = fa_cnt p n + 1 := by rw [fa_cnt, if_pos h]
theorem fa_cnt_no {p : Nat → Bool} {n : Nat} (h : p n = false) : fa_cnt p (n + 1) = fa_cnt p n := by rw [fa_cnt, if_neg (by rw [h]; decide)]; rfl
theorem fa_cnt_cong {p q : Nat → Bool} : ∀ {n : Nat}, (∀ k, k < n → p k = q k) → fa_cnt p n = fa_cnt q n
  | 0, _ => rfl
  | n + 1, h => by rw [fa_cnt, fa_cnt, fa_cnt_cong (fun k hk => h k (Nat.lt_succ_of_lt hk)), h n (Nat.lt_succ_self n)]
/-! ===== an answer carried into a post; a branch on a boolean answer ===== -/
theorem fa_post {α : Type} {P : α → Prop} {x y : α} (h : x = y) (hp : P y) : P x := h ▸ hp
theorem fa_post2 {α β : Type} {P : α → β → Prop} {x y : α} {u v : β} (h : x = y) (h2 : u = v) (hp : P y v) : P x u := h ▸ h2 ▸ hp
theorem fa_bool {r : Int32} {b : Bool} (h : r = if b then 1 else 0) : (r = 0 ↔ b = false) ∧ (¬ r = 0 ↔ b = true) := by
  subst h
  cases b
  · exact ⟨⟨fun _ => rfl, fun _ => rfl⟩, ⟨fun h => absurd rfl h, fun h => absurd h (by decide)⟩⟩
  · exact ⟨⟨fun h => absurd h (by decide), fun h => absurd h (by decide)⟩, ⟨fun _ => rfl, fun _ => by decide⟩⟩
/-- a boolean's narrowing changes nothing -/
theorem fa_bool_and {r : Int32} (h : r = 0 ∨ r = 1) : r &&& 1 = r := by
  rcases h with rfl | rfl
  · decide
  · decide
theorem fa_bool_prop {c : Prop} [Decidable c] {r : Int32} (h : r = if c then 1 else 0) : (r = 0 ↔ ¬ c) ∧ (¬ r = 0 ↔ c) := by
  subst h
  by_cases hc : c
  · rw [if_pos hc]
    exact ⟨⟨fun h => absurd h (by decide), fun h => absurd hc h⟩, ⟨fun _ => hc, fun _ => by decide⟩⟩
  · rw [if_neg hc]
    exact ⟨⟨fun _ => hc, fun _ => rfl⟩, ⟨fun h => absurd rfl h, fun h => absurd h hc⟩⟩
end
section
/-! rows on bits, shifts and unsigned numbers, to paste: each family out of a closed proof of our own, whole with what it rests on; each by itself clean at Lean in its own claim (generation 39, form 5). Take a family whole -/
/-! ===== Int32 by its bits: bt x i ===== -/
def bt (x : Int32) (i : Nat) : Bool := x.toBitVec.getLsbD i
theorem b_ext {x y : Int32} (h : ∀ i, i < 32 → bt x i = bt y i) : x = y := Int32.toBitVec_inj.mp (BitVec.eq_of_getLsbD_eq (fun i hi => h i hi))
theorem b_or (x y : Int32) (i : Nat) : bt (x ||| y) i = (bt x i || bt y i) := by unfold bt; rw [Int32.toBitVec_or, BitVec.getLsbD_or]
theorem b_and (x y : Int32) (i : Nat) : bt (x &&& y) i = (bt x i && bt y i) := by unfold bt; rw [Int32.toBitVec_and, BitVec.getLsbD_and]
theorem b_xor (x y : Int32) (i : Nat) : bt (x ^^^ y) i = (bt x i ^^ bt y i) := by unfold bt; rw [Int32.toBitVec_xor, BitVec.getLsbD_xor]
theorem b_big {x : Int32} {i : Nat} (h : 32 ≤ i) : bt x i = false := BitVec.getLsbD_of_ge _ _ h
theorem b_255 (i : Nat) : bt 255 i = decide (i < 8) := by
  rcases Nat.lt_or_ge i 32 with h | h
  · exact (by decide +kernel : ∀ i, i < 32 → bt 255 i = decide (i < 8)) i h
  · rw [b_big h, decide_eq_false (by omega)]
theorem b_65535 (i : Nat) : bt 65535 i = decide (i < 16) := by
  rcases Nat.lt_or_ge i 32 with h | h
  · exact (by decide +kernel : ∀ i, i < 32 → bt 65535 i = decide (i < 16)) i h
  · rw [b_big h, decide_eq_false (by omega)]
theorem b_m1 : ∀ i, i < 32 → bt (-1) i = true := by decide +kernel
theorem b_0 (i : Nat) : bt 0 i = false := BitVec.getLsbD_zero
theorem s_l : ∀ n, n < 32 → ((nI n &&& 31).toBitVec.smod 32).toNat = n := by decide +kernel
theorem s_u : ∀ n, n < 32 → (((nI n).toUInt32 &&& Int32.toUInt32 31).toBitVec % 32).toNat = n := by decide +kernel
theorem b_shl (n : Nat) (hn : n < 32) (x : Int32) {i : Nat} (hi : i < 32) : bt (x <<< (nI n &&& 31)) i = (decide (n ≤ i) && bt x (i - n)) := by
  unfold bt
  rw [Int32.toBitVec_shiftLeft]
  show (x.toBitVec <<< ((nI n &&& 31).toBitVec.smod 32).toNat).getLsbD i = _
  rw [s_l n hn, BitVec.getLsbD_shiftLeft]
  rcases Nat.lt_or_ge i n with h | h
  · simp [h, Nat.not_le.mpr h]
  · simp [hi, h, Nat.not_lt.mpr h]
theorem b_ushr (n : Nat) (hn : n < 32) (x : Int32) (i : Nat) : bt ((x.toUInt32 >>> ((nI n).toUInt32 &&& Int32.toUInt32 31)).toInt32) i = bt x (n + i) := by
  show (x.toUInt32 >>> ((nI n).toUInt32 &&& Int32.toUInt32 31)).toBitVec.getLsbD i = x.toUInt32.toBitVec.getLsbD (n + i)
  rw [UInt32.toBitVec_shiftRight]
  show (x.toUInt32.toBitVec >>> (((nI n).toUInt32 &&& Int32.toUInt32 31).toBitVec % 32).toNat).getLsbD i = _
  rw [s_u n hn, BitVec.getLsbD_ushiftRight]
theorem b_sshr (n : Nat) (hn : n < 32) (x : Int32) {i : Nat} (hi : i < 32) : bt (x >>> (nI n &&& 31)) i = if n + i < 32 then bt x (n + i) else bt x 31 := by
  unfold bt
  rw [Int32.toBitVec_shiftRight]
  show (x.toBitVec.sshiftRight ((nI n &&& 31).toBitVec.smod 32).toNat).getLsbD i = _
  rw [s_l n hn, BitVec.getLsbD_sshiftRight, BitVec.msb_eq_getLsbD_last]
  simp [hi]
theorem b_shl8 (x : Int32) {i : Nat} (hi : i < 32) : bt (x <<< ((8 : Int32) &&& 31)) i = (decide (8 ≤ i) && bt x (i - 8)) := b_shl 8 (by omega) x hi
theorem b_shl16 (x : Int32) {i : Nat} (hi : i < 32) : bt (x <<< ((16 : Int32) &&& 31)) i = (decide (16 ≤ i) && bt x (i - 16)) := b_shl 16 (by omega) x hi
theorem b_shl24 (x : Int32) {i : Nat} (hi : i < 32) : bt (x <<< ((24 : Int32) &&& 31)) i = (decide (24 ≤ i) && bt x (i - 24)) := b_shl 24 (by omega) x hi
theorem b_sshr8 (x : Int32) {i : Nat} (hi : i < 32) : bt (x >>> ((8 : Int32) &&& 31)) i = if 8 + i < 32 then bt x (8 + i) else bt x 31 := b_sshr 8 (by omega) x hi
/-! ===== nI under and, xor, >>>, one bit, 65535 ===== -/
theorem nx_and (a b : Nat) : nI a &&& nI b = nI (a &&& b) := by
  apply Int32.toBitVec_inj.1
  show BitVec.ofNat 32 a &&& BitVec.ofNat 32 b = BitVec.ofNat 32 (a &&& b)
  apply BitVec.eq_of_getLsbD_eq
  intro i hi
  simp [hi]
theorem nx_xor (a b : Nat) : nI a ^^^ nI b = nI (a ^^^ b) := by
  apply Int32.toBitVec_inj.1
  show BitVec.ofNat 32 a ^^^ BitVec.ofNat 32 b = BitVec.ofNat 32 (a ^^^ b)
  apply BitVec.eq_of_getLsbD_eq
  intro i hi
  simp [hi]
theorem nx_cnt : ∀ j : Fin 32, (UInt32.ofNat j.val &&& Int32.toUInt32 31).toNat % 32 = j.val := by decide +kernel
theorem nx_ush {k j : Nat} (hk : k < 65536) (hj : j < 32) : ((nI k).toUInt32 >>> ((nI j).toUInt32 &&& Int32.toUInt32 31)).toInt32 = nI (k >>> j) := by
  have hs : k >>> j ≤ k := by
    rw [Nat.shiftRight_eq_div_pow]
    exact Nat.div_le_self _ _
  have e2 : UInt32.ofNat k >>> (UInt32.ofNat j &&& Int32.toUInt32 31) = UInt32.ofNat (k >>> j) := by
    apply UInt32.toNat_inj.1
    have h1 : (UInt32.ofNat k).toNat = k := Nat.mod_eq_of_lt (by omega)
    have h2 : (UInt32.ofNat (k >>> j)).toNat = k >>> j := Nat.mod_eq_of_lt (by omega)
    rw [UInt32.toNat_shiftRight, nx_cnt ⟨j, hj⟩, h1, h2]
  show (UInt32.ofNat k >>> (UInt32.ofNat j &&& Int32.toUInt32 31)).toInt32 = _
  rw [e2]
  rfl
theorem nx_bit {k j : Nat} (hk : k < 65536) (hj : j < 16) : (((nI k).toUInt32 >>> ((nI j).toUInt32 &&& Int32.toUInt32 31)).toInt32 &&& 1) = 0 ↔ k.testBit j = false := by
  rw [nx_ush hk (by omega)]
  show nI (k >>> j) &&& nI 1 = 0 ↔ _
  rw [nx_and, Nat.and_one_is_mod, ← nI_0, nI_eq (by omega) (by omega), Nat.testBit_eq_decide_div_mod_eq, Nat.shiftRight_eq_div_pow, decide_eq_false_iff_not]
  generalize k / 2 ^ j = z
  omega
theorem nx_mod (k : Nat) : nI k &&& 65535 = nI (k % 65536) := by
  show nI k &&& nI 65535 = _
  rw [nx_and, show (65535 : Nat) = 2 ^ 16 - 1 from rfl, Nat.and_two_pow_sub_one_eq_mod]
theorem nx_m16 {k : Nat} (h : k < 65536) : nI k &&& 65535 = nI k := by rw [nx_mod, Nat.mod_eq_of_lt h]
theorem nx_mask (x : Int32) : ∃ k, k < 65536 ∧ x &&& 65535 = nI k := by
  have e : x = nI x.toBitVec.toNat := by
    apply Int32.toBitVec_inj.1
    show x.toBitVec = BitVec.ofNat 32 x.toBitVec.toNat
    simp
  refine ⟨x.toBitVec.toNat % 65536, Nat.mod_lt _ (by omega), ?_⟩
  rw [← nx_mod, ← e]
/-! ===== Int32 as a set of bits: test, set ===== -/
def nf_M (m : Int32) : Nat := 4294967296 - m.toBitVec.toNat
theorem nf_sh : ∀ l, l < 32 → ((1 : Int32) <<< (nI l &&& 31)).toBitVec = BitVec.twoPow 32 l := by decide +kernel
theorem nf_sl : ∀ l, l < 32 → (((nI l).toUInt32 &&& Int32.toUInt32 31).toBitVec % 32).toNat = l := by decide +kernel
theorem nf_tp : ∀ l, l < 32 → BitVec.twoPow 32 l ≠ 0#32 := by decide +kernel
theorem nf_bit (m : Int32) (l : Nat) (hl : l < 32) : ((m.toUInt32 >>> ((nI l).toUInt32 &&& Int32.toUInt32 31)).toInt32 &&& 1) = 0 ↔ (m &&& ((1 : Int32) <<< (nI l &&& 31))) = 0 := by
  have e : ((m.toUInt32 >>> ((nI l).toUInt32 &&& Int32.toUInt32 31)).toInt32).toBitVec = m.toBitVec >>> l := by
    show m.toBitVec >>> (((nI l).toUInt32 &&& Int32.toUInt32 31).toBitVec % 32) = m.toBitVec >>> l
    rw [BitVec.ushiftRight_eq', nf_sl l hl]
  rw [← Int32.toBitVec_inj, ← Int32.toBitVec_inj, Int32.toBitVec_and, Int32.toBitVec_and, nf_sh l hl, e, BitVec.and_twoPow]
  show (m.toBitVec >>> l &&& 1#32) = 0#32 ↔ _ = 0#32
  rw [BitVec.and_one_eq_setWidth_ofBool_getLsbD, BitVec.getLsbD_ushiftRight, Nat.add_zero]
  cases hb : m.toBitVec.getLsbD l
  · exact ⟨fun _ => by simp, fun _ => by decide⟩
  · exact ⟨fun z => absurd z (by decide), fun z => absurd ((if_pos rfl).symm.trans z) (nf_tp l hl)⟩
theorem nf_gr (m k : Int32) (h : m &&& k = 0) (hk : k ≠ 0) : nf_M (m ||| k) < nf_M m := by
  have hm := m.toBitVec.isLt
  have hm' := (m ||| k).toBitVec.isLt
  have h1 : m.toBitVec.toNat ≤ (m ||| k).toBitVec.toNat := by
    rw [Int32.toBitVec_or, BitVec.toNat_or]
    exact Nat.left_le_or
  have h2 : m.toBitVec.toNat ≠ (m ||| k).toBitVec.toNat := by
    intro e
    have e2 : m = m ||| k := Int32.toBitVec_inj.mp (BitVec.eq_of_toNat_eq e)
    apply hk
    apply Int32.toBitVec_inj.mp
    show k.toBitVec = 0#32
    apply BitVec.eq_of_getLsbD_eq
    intro i hi
    have a : m.toBitVec.getLsbD i = (m.toBitVec.getLsbD i || k.toBitVec.getLsbD i) := by rw [← BitVec.getLsbD_or, ← Int32.toBitVec_or, ← e2]
    have b : (m.toBitVec.getLsbD i && k.toBitVec.getLsbD i) = false := by
      rw [← BitVec.getLsbD_and, ← Int32.toBitVec_and, h]
      exact BitVec.getLsbD_zero
    rw [BitVec.getLsbD_zero]
    revert a b
    cases m.toBitVec.getLsbD i <;> cases k.toBitVec.getLsbD i <;> simp
  unfold nf_M
  omega
/-! ===== a byte read unsigned ===== -/
theorem bp_b (x : Int32) : x.toInt8.toInt32 &&& 255 = x &&& 255 := by
  apply Int32.toBitVec_inj.mp
  rw [Int32.toBitVec_and, Int32.toBitVec_and, Int8.toBitVec_toInt32, Int32.toBitVec_toInt8]
  apply BitVec.eq_of_getLsbD_eq
  intro i hi
  rw [BitVec.getLsbD_and, BitVec.getLsbD_and]
  have hm : ∀ i < 32, 8 ≤ i → (255 : Int32).toBitVec.getLsbD i = false := by decide
  rcases Nat.lt_or_ge i 8 with z | z
  · rw [BitVec.getLsbD_signExtend, BitVec.getLsbD_signExtend, if_pos z, if_pos hi]
    simp only [z, hi, decide_true, Bool.true_and]
  · rw [hm i hi z]; simp
/-! ===== the char cast and 65535 ===== -/
/-! ===== Int64 as a set of bits: test, set, clear ===== -/
theorem ts_nf {x : Bool} (h : ¬ x = false) : x = true := by cases x <;> first | rfl | exact absurd rfl h
theorem ts_nt {x : Bool} (h : ¬ x = true) : x = false := by cases x <;> first | rfl | exact absurd rfl h
theorem ts_bit {w : Int64} {s : UInt64} {j : Nat} (hj : j < 64) (hs : s.toNat = j) : ((w.toUInt64 >>> s).toInt64 &&& 1) = 0 ↔ w.toBitVec.getLsbD j = false := by
  have e : (w.toUInt64 >>> s).toInt64.toBitVec = w.toBitVec >>> j := by
    apply BitVec.eq_of_toNat_eq
    show (w.toUInt64 >>> s).toNat = _
    rw [UInt64.toNat_shiftRight, hs, Nat.mod_eq_of_lt hj, BitVec.toNat_ushiftRight]
    rfl
  rw [← Int64.toBitVec_inj, Int64.toBitVec_and, e]
  show w.toBitVec >>> j &&& 1#64 = 0#64 ↔ _
  constructor
  · intro h
    have t := congrArg (fun x => x.getLsbD 0) h
    simpa using t
  · intro h
    apply BitVec.eq_of_getLsbD_eq
    intro i hi
    cases i with
    | zero => simp [h]
    | succ i => simp
theorem ts_or {w m : Int64} {j : Nat} (hj : j < 64) (hm : m.toBitVec = BitVec.twoPow 64 j) : (w ||| m) = w ↔ w.toBitVec.getLsbD j = true := by
  rw [← Int64.toBitVec_inj, Int64.toBitVec_or, hm]
  constructor
  · intro h
    have t := congrArg (fun x => x.getLsbD j) h
    simp only [BitVec.getLsbD_or, BitVec.getLsbD_twoPow] at t
    simpa [hj] using t.symm
  · intro h
    apply BitVec.eq_of_getLsbD_eq
    intro i hi
    rw [BitVec.getLsbD_or, BitVec.getLsbD_twoPow]
    by_cases e : j = i
    · subst e; rw [h, Bool.true_or]
    · simp [e]
theorem ts_and {w m : Int64} {j : Nat} (hj : j < 64) (hm : m.toBitVec = BitVec.twoPow 64 j) : (w &&& (m ^^^ (-1))) = w ↔ w.toBitVec.getLsbD j = false := by
  have ha : (-1 : Int64).toBitVec = BitVec.allOnes 64 := by decide
  rw [← Int64.toBitVec_inj, Int64.toBitVec_and, Int64.toBitVec_xor, hm, ha]
  constructor
  · intro h
    have t := congrArg (fun x => x.getLsbD j) h
    simp only [BitVec.getLsbD_and, BitVec.getLsbD_xor, BitVec.getLsbD_twoPow, BitVec.getLsbD_allOnes] at t
    simpa [hj] using t.symm
  · intro h
    apply BitVec.eq_of_getLsbD_eq
    intro i hi
    rw [BitVec.getLsbD_and, BitVec.getLsbD_xor, BitVec.getLsbD_twoPow, BitVec.getLsbD_allOnes]
    by_cases e : j = i
    · subst e; rw [h, Bool.false_and]
    · simp [e, hi]
/-! ===== lN n to 2^64: shifts, and, or, masks, one bit ===== -/
theorem wb_tb (n : Nat) : (lN n).toBitVec = BitVec.ofNat 64 n := rfl
theorem wb_inj {a b : Int64} (h : a.toBitVec = b.toBitVec) : a = b := Int64.toBitVec_inj.mp h
theorem wb_tn {n : Nat} (h : n < 2 ^ 64) : (lN n).toBitVec.toNat = n := by rw [wb_tb, BitVec.toNat_ofNat, Nat.mod_eq_of_lt h]
theorem wb_of (x : Int64) : ∃ n, n < 2 ^ 64 ∧ x = lN n := ⟨x.toBitVec.toNat, x.toBitVec.isLt, wb_inj (by rw [wb_tb]; simp)⟩
theorem wb_of32 (x : Int32) : ∃ n, n < 2 ^ 32 ∧ x = nI n := ⟨x.toBitVec.toNat, x.toBitVec.isLt, Int32.toBitVec_inj.mp (by show _ = BitVec.ofNat 32 _; simp)⟩
theorem wb_c : ∀ k, k < 64 → ((nI k).toInt64 &&& 63) = lN k := by decide +kernel
theorem wb_cu : ∀ k, k < 64 → ((nI k).toInt64.toUInt64 &&& Int64.toUInt64 63) = UInt64.ofNat k := by decide +kernel
theorem wb_sm : ∀ k, k < 64 → (BitVec.ofNat 64 k).smod 64 = BitVec.ofNat 64 k := by decide +kernel
theorem wb_pw {a b : Nat} (h : a ≤ b) : 2 ^ b = 2 ^ a * 2 ^ (b - a) := by rw [← Nat.pow_add]; congr 1; omega
theorem wb_lt2 {a b : Nat} (h : a < b) : 2 ^ a < 2 ^ b := Nat.pow_lt_pow_right (by decide) h
theorem wb_mod (n : Nat) : lN n = lN (n % 2 ^ 64) := wb_inj (by rw [wb_tb, wb_tb]; apply BitVec.eq_of_toNat_eq; rw [BitVec.toNat_ofNat, BitVec.toNat_ofNat, Nat.mod_mod])
theorem wb_shr {n k : Nat} (hn : n < 2 ^ 64) (hk : k < 64) : ((lN n).toUInt64 >>> ((nI k).toInt64.toUInt64 &&& Int64.toUInt64 63)).toInt64 = lN (n / 2 ^ k) := by
  rw [wb_cu k hk]
  apply wb_inj
  apply BitVec.eq_of_toNat_eq
  show ((lN n).toUInt64 >>> UInt64.ofNat k).toNat = (BitVec.ofNat 64 _).toNat
  have h1 : (UInt64.ofNat k).toNat = k := by
    show (BitVec.ofNat 64 k).toNat = k
    rw [BitVec.toNat_ofNat, Nat.mod_eq_of_lt (by omega)]
  have h2 : (lN n).toUInt64.toNat = n := wb_tn hn
  rw [UInt64.toNat_shiftRight, h1, h2, Nat.mod_eq_of_lt hk, Nat.shiftRight_eq_div_pow, BitVec.toNat_ofNat, Nat.mod_eq_of_lt (Nat.lt_of_le_of_lt (Nat.div_le_self _ _) hn)]
theorem wb_shl (n : Nat) {k : Nat} (hk : k < 64) : lN n <<< ((nI k).toInt64 &&& 63) = lN (n * 2 ^ k) := by
  rw [wb_c k hk]
  apply wb_inj
  rw [Int64.toBitVec_shiftLeft, wb_tb, wb_tb, wb_tb, wb_sm k hk]
  apply BitVec.eq_of_toNat_eq
  rw [BitVec.shiftLeft_eq', BitVec.toNat_shiftLeft, BitVec.toNat_ofNat, BitVec.toNat_ofNat, BitVec.toNat_ofNat, Nat.mod_eq_of_lt (show k < 2 ^ 64 by omega), Nat.shiftLeft_eq, Nat.mul_mod, Nat.mod_mod, ← Nat.mul_mod]
theorem wb_and {a b : Nat} (ha : a < 2 ^ 64) (hb : b < 2 ^ 64) : lN a &&& lN b = lN (a &&& b) := by
  apply wb_inj
  rw [Int64.toBitVec_and, wb_tb, wb_tb, wb_tb]
  apply BitVec.eq_of_toNat_eq
  rw [BitVec.toNat_and, BitVec.toNat_ofNat, BitVec.toNat_ofNat, BitVec.toNat_ofNat, Nat.mod_eq_of_lt ha, Nat.mod_eq_of_lt hb, Nat.mod_eq_of_lt (Nat.and_lt_two_pow _ hb)]
theorem wb_or {a b : Nat} (ha : a < 2 ^ 64) (hb : b < 2 ^ 64) : lN a ||| lN b = lN (a ||| b) := by
  apply wb_inj
  rw [Int64.toBitVec_or, wb_tb, wb_tb, wb_tb]
  apply BitVec.eq_of_toNat_eq
  rw [BitVec.toNat_or, BitVec.toNat_ofNat, BitVec.toNat_ofNat, BitVec.toNat_ofNat, Nat.mod_eq_of_lt ha, Nat.mod_eq_of_lt hb, Nat.mod_eq_of_lt (Nat.or_lt_two_pow ha hb)]
theorem wb_mask {n k : Nat} (hn : n < 2 ^ 64) (hk : k < 64) : lN n &&& lN (2 ^ k - 1) = lN (n % 2 ^ k) := by
  rw [wb_and hn (by have := wb_lt2 hk; omega), Nat.and_two_pow_sub_one_eq_mod]
theorem wb_a1 {n : Nat} (hn : n < 2 ^ 64) : lN n &&& 1 = lN (n % 2) := wb_mask (k := 1) hn (by decide)
theorem wb_bit {n k : Nat} (hn : n < 2 ^ 64) (hk : k < 64) : ((lN n).toUInt64 >>> ((nI k).toInt64.toUInt64 &&& Int64.toUInt64 63)).toInt64 &&& 1 = lN (n / 2 ^ k % 2) := by
  rw [wb_shr hn hk, wb_a1 (Nat.lt_of_le_of_lt (Nat.div_le_self _ _) hn)]
theorem wb_xor {q k : Nat} (hk : k < 63) (h : 2 ^ k ≤ q) (h2 : q < 2 ^ (k + 1)) : lN q ^^^ lN (2 ^ k) = lN (q - 2 ^ k) := by
  obtain ⟨r, rfl⟩ : ∃ r, q = 2 ^ k + r := ⟨q - 2 ^ k, by omega⟩
  have hr : r < 2 ^ k := by rw [Nat.pow_succ] at h2; omega
  have hx : (2 ^ k + r) ^^^ 2 ^ k = r := by
    apply Nat.eq_of_testBit_eq
    intro i
    rw [Nat.testBit_xor, Nat.testBit_two_pow]
    rcases Nat.lt_trichotomy i k with h | h | h
    · rw [Nat.testBit_two_pow_add_gt h]
      simp [show ¬ k = i by omega]
    · subst h
      rw [Nat.testBit_two_pow_add_eq]
      simp
    · have a1 : 2 ^ (k + 1) ≤ 2 ^ i := Nat.pow_le_pow_right (by decide) h
      rw [Nat.testBit_lt_two_pow (show 2 ^ k + r < 2 ^ i by omega), Nat.testBit_lt_two_pow (show r < 2 ^ i by omega)]
      simp [show ¬ k = i by omega]
  have b1 := wb_lt2 (show k + 1 < 64 by omega)
  have b2 := wb_lt2 (show k < 64 by omega)
  apply wb_inj
  rw [Int64.toBitVec_xor, wb_tb, wb_tb, wb_tb]
  apply BitVec.eq_of_toNat_eq
  rw [BitVec.toNat_xor, BitVec.toNat_ofNat, BitVec.toNat_ofNat, BitVec.toNat_ofNat, Nat.mod_eq_of_lt (by omega : 2 ^ k + r < 2 ^ 64), Nat.mod_eq_of_lt b2, hx, Nat.add_sub_cancel_left, Nat.mod_eq_of_lt (by omega)]
/-! ===== lN: masks, 'or' of parts that don't overlap is a sum ===== -/
theorem u_tn {n : Nat} (h : n < 2 ^ 64) : (UInt64.ofNat n).toNat = n := Nat.mod_eq_of_lt h
theorem g_and {a b c : Nat} (ha : a < 2 ^ 64) (hb : b < 2 ^ 64) (hc : a &&& b = c) : lN a &&& lN b = lN c := by
  subst hc
  have h : UInt64.ofNat a &&& UInt64.ofNat b = UInt64.ofNat (a &&& b) := UInt64.toNat_inj.mp (by rw [UInt64.toNat_and, u_tn ha, u_tn hb, u_tn (Nat.and_lt_two_pow a hb)])
  have h2 := congrArg UInt64.toInt64 h
  exact h2
theorem g_and1 {a : Nat} (ha : a < 2 ^ 64) : lN a &&& 1 = lN (a % 2) := g_and (b := 1) ha (by decide) (Nat.and_two_pow_sub_one_eq_mod a 1)
theorem g_mask {a s p : Nat} (hp : 2 ^ s = p) (hs : s < 64) (ha : a < 2 ^ 64) : lN a &&& lN (p - 1) = lN (a % p) := by
  subst hp
  have := Nat.pow_lt_pow_right (show 1 < 2 by decide) hs
  exact g_and ha (by omega) (Nat.and_two_pow_sub_one_eq_mod a s)
theorem g_or {k p a b : Nat} (hp : 2 ^ k = p) (ha : a < p) (h : b * p + a < 2 ^ 64) : lN (b * p) ||| lN a = lN (b * p + a) := by
  subst hp
  have h1 : b * 2 ^ k ||| a = b * 2 ^ k + a := by rw [← Nat.shiftLeft_eq, Nat.shiftLeft_add_eq_or_of_lt ha]
  have h3 : UInt64.ofNat (b * 2 ^ k) ||| UInt64.ofNat a = UInt64.ofNat (b * 2 ^ k + a) := UInt64.toNat_inj.mp (by rw [UInt64.toNat_or, u_tn (by omega), u_tn (by omega), u_tn h, h1])
  have h2 := congrArg UInt64.toInt64 h3
  exact h2
theorem g_or' {k p a b : Nat} (hp : 2 ^ k = p) (ha : a < p) (h : a + b * p < 2 ^ 64) : lN a ||| lN (b * p) = lN (a + b * p) := by
  rw [Int64.or_comm, g_or hp ha (by omega), Nat.add_comm]
theorem g_ushr {a k p : Nat} {y : UInt64} (hy : y = UInt64.ofNat k) (hk : k < 64) (hp : 2 ^ k = p) (ha : a < 2 ^ 64) : ((lN a).toUInt64 >>> y).toInt64 = lN (a / p) := by
  subst hy hp
  have h : UInt64.ofNat a >>> UInt64.ofNat k = UInt64.ofNat (a / 2 ^ k) := UInt64.toNat_inj.mp (by rw [UInt64.toNat_shiftRight, u_tn ha, u_tn (by omega), u_tn (Nat.lt_of_le_of_lt (Nat.div_le_self _ _) ha), Nat.mod_eq_of_lt hk, Nat.shiftRight_eq_div_pow])
  have h2 := congrArg UInt64.toInt64 h
  exact h2
theorem g_shl {a k p : Nat} {y : Int64} (hy : y.toBitVec.smod 64 = BitVec.ofNat 64 k) (hk : k < 64) (hp : 2 ^ k = p) (ha : a < 2 ^ 64) : lN a <<< y = lN (a * p) := by
  subst hp
  apply Int64.toBitVec_inj.mp
  rw [Int64.toBitVec_shiftLeft, hy]
  apply BitVec.eq_of_toNat_eq
  have hb : (lN a).toBitVec.toNat = a := Nat.mod_eq_of_lt ha
  have hk' : (BitVec.ofNat 64 k).toNat = k := Nat.mod_eq_of_lt (by omega)
  have h : ((lN a).toBitVec <<< BitVec.ofNat 64 k).toNat = (a * 2 ^ k) % 2 ^ 64 := by simp only [BitVec.shiftLeft_eq', BitVec.toNat_shiftLeft, hb, hk', Nat.shiftLeft_eq]
  exact h
/-! ===== lN to 2^62 under >> and >>> ===== -/
theorem pf_lI {a : Nat} (h : a < 2 ^ 63) : (lN a).toInt = (a : Int) := lg_ofNat_toInt h
theorem pf_shr {a d : Nat} {D : Int64} (hD : (D.toBitVec.smod 64).toNat = d) (h : a < 2 ^ 62) : lN a >>> D = lN (a / 2 ^ d) := by
  have hd : a / 2 ^ d ≤ a := Nat.div_le_self _ _
  apply Int64.toInt_inj.mp
  have e : (lN a >>> D).toInt = (lN a).toInt >>> d := by
    rw [← hD]
    exact BitVec.toInt_sshiftRight ..
  rw [e, Int.shiftRight_eq_div_pow, pf_lI (by omega), pf_lI (by omega)]
  rfl
theorem pf_ushr {a d : Nat} {D : UInt64} (hD : D.toNat % 64 = d) (h : a < 2 ^ 62) : ((lN a).toUInt64 >>> D).toInt64 = lN (a / 2 ^ d) := by
  have hd : a / 2 ^ d ≤ a := Nat.div_le_self _ _
  have e : (lN a).toUInt64 >>> D = UInt64.ofNat (a / 2 ^ d) := UInt64.toNat_inj.mp (by
    rw [UInt64.toNat_shiftRight, hD, Nat.shiftRight_eq_div_pow, UInt64.toNat_ofNat']
    show (UInt64.ofNat a).toNat / 2 ^ d = _
    rw [UInt64.toNat_ofNat', Nat.mod_eq_of_lt (by omega), Nat.mod_eq_of_lt (by omega)])
  rw [e]
  rfl
theorem pf_andw (x : Int64) : ∃ m, m < 2 ^ 32 ∧ x &&& 4294967295 = lN m := ⟨x.toBitVec.toNat % 2 ^ 32, Nat.mod_lt _ (by decide), Int64.toBitVec_inj.mp (BitVec.eq_of_toNat_eq (by
  show (x.toBitVec &&& 4294967295#64).toNat = (BitVec.ofNat 64 (x.toBitVec.toNat % 2 ^ 32)).toNat
  rw [BitVec.toNat_and, show (4294967295#64).toNat = 2 ^ 32 - 1 from by decide, Nat.and_two_pow_sub_one_eq_mod, BitVec.toNat_ofNat]
  omega))⟩
/-! ===== Int64 as an unsigned number: uN x ===== -/
def uN (x : Int64) : Nat := x.toUInt64.toNat
theorem uN_lt (x : Int64) : uN x < 18446744073709551616 := x.toUInt64.toNat_lt
theorem uN_inj {x y : Int64} (h : uN x = uN y) : x = y := congrArg UInt64.toInt64 (UInt64.toNat_inj.mp h)
theorem uN_add (x y : Int64) : uN (x + y) = (uN x + uN y) % 18446744073709551616 := by
  show (x.toUInt64 + y.toUInt64).toNat = _
  exact UInt64.toNat_add _ _
theorem uN_mul (x y : Int64) : uN (x * y) = (uN x * uN y) % 18446744073709551616 := by
  show (x.toUInt64 * y.toUInt64).toNat = _
  exact UInt64.toNat_mul _ _
theorem uN_shl (x : Int64) : uN (x <<< ((1 : Int32).toInt64 &&& 63)) = (2 * uN x) % 18446744073709551616 := by
  have h : (((1 : Int32).toInt64 &&& 63).toBitVec.smod 64).toNat = 1 := by decide
  show (x.toBitVec <<< (((1 : Int32).toInt64 &&& 63).toBitVec.smod 64).toNat).toNat = _
  rw [h, BitVec.toNat_shiftLeft, Nat.shiftLeft_eq, Nat.mul_comm]
  rfl
theorem uN_shr (x : Int64) (s : UInt64) : uN (x.toUInt64 >>> s).toInt64 = uN x / 2 ^ (s.toNat % 64) := by
  show (x.toUInt64 >>> s).toNat = _
  rw [UInt64.toNat_shiftRight, Nat.shiftRight_eq_div_pow]
  rfl
theorem uN_s32 (x : Int64) : uN (x.toUInt64 >>> ((32 : Int32).toInt64.toUInt64 &&& Int64.toUInt64 63)).toInt64 = uN x / 4294967296 := by
  have h : ((32 : Int32).toInt64.toUInt64 &&& Int64.toUInt64 63).toNat % 64 = 32 := by decide
  rw [uN_shr, h]
theorem uN_s63 (x : Int64) : uN (x.toUInt64 >>> ((63 : Int32).toInt64.toUInt64 &&& Int64.toUInt64 63)).toInt64 = uN x / 9223372036854775808 := by
  have h : ((63 : Int32).toInt64.toUInt64 &&& Int64.toUInt64 63).toNat % 64 = 63 := by decide
  rw [uN_shr, h]
theorem uN_lo (x : Int64) : uN (x &&& 4294967295) = uN x % 4294967296 := by
  show (x.toUInt64 &&& Int64.toUInt64 4294967295).toNat = _
  rw [UInt64.toNat_and]
  exact Nat.and_two_pow_sub_one_eq_mod _ 32
theorem uN_bit (x : Int64) : (x &&& 1) = 0 ↔ uN x % 2 = 0 := by
  have h : uN (x &&& 1) = uN x % 2 := by
    show (x.toUInt64 &&& Int64.toUInt64 1).toNat = _
    rw [UInt64.toNat_and]
    exact Nat.and_two_pow_sub_one_eq_mod _ 1
  rw [← h]
  exact ⟨fun z => by rw [z]; rfl, fun z => uN_inj (z.trans rfl)⟩
theorem uN_or {x y : Int64} (hy : uN y < 2) : uN ((x <<< ((1 : Int32).toInt64 &&& 63)) ||| y) = (2 * uN x) % 18446744073709551616 + uN y := by
  have h1 : uN ((x <<< ((1 : Int32).toInt64 &&& 63)) ||| y) = uN (x <<< ((1 : Int32).toInt64 &&& 63)) ||| uN y := UInt64.toNat_or _ _
  have h2 : (2 * uN x) % 18446744073709551616 = 2 ^ 1 * (uN x % 9223372036854775808) := by omega
  rw [h1, uN_shl, h2]
  exact (Nat.two_pow_add_eq_or_of_lt (i := 1) hy _).symm
theorem nat_xor {a : Nat} (h : a < 18446744073709551616) : a ^^^ 2 ^ 63 = (a + 9223372036854775808) % 18446744073709551616 := by
  have h1 : (a ^^^ 2 ^ 63) % 2 ^ 63 = a % 2 ^ 63 := by rw [Nat.xor_mod_two_pow, Nat.mod_self, Nat.xor_zero]
  have h2 : (a ^^^ 2 ^ 63) / 2 ^ 63 = (a / 2 ^ 63) ^^^ 1 := by rw [Nat.xor_div_two_pow, Nat.div_self (Nat.two_pow_pos 63)]
  have h3 : a / 2 ^ 63 = 0 ∨ a / 2 ^ 63 = 1 := by omega
  generalize a ^^^ 2 ^ 63 = t at h1 h2
  rcases h3 with h3 | h3
  · rw [h3] at h2
    have h2 : t / 2 ^ 63 = 1 := h2
    omega
  · rw [h3] at h2
    have h2 : t / 2 ^ 63 = 0 := h2
    omega
theorem uN_xor (x : Int64) : uN (x ^^^ (-9223372036854775808)) = (uN x + 9223372036854775808) % 18446744073709551616 := by
  rw [← nat_xor (uN_lt x)]
  exact UInt64.toNat_xor _ _
theorem uN_int (x : Int64) : x.toInt = if 2 * uN x < 18446744073709551616 then (uN x : Int) else (uN x : Int) - 18446744073709551616 := BitVec.toInt_eq_toNat_cond _
theorem uN_le (x y : Int64) : (x ^^^ (-9223372036854775808)) ≤ (y ^^^ (-9223372036854775808)) ↔ uN x ≤ uN y := by
  have hx := uN_lt x
  have hy := uN_lt y
  rw [Int64.le_iff_toInt_le, uN_int, uN_int, uN_xor, uN_xor]
  omega
theorem uN_sk (x : Int64) {k : Nat} (hk : k < 64) : uN (x.toUInt64 >>> ((nI k).toInt64.toUInt64 &&& Int64.toUInt64 63)).toInt64 = uN x / 2 ^ k := by
  have h : ((nI k).toInt64.toUInt64 &&& Int64.toUInt64 63).toNat % 64 = k := by
    rw [nI_l (by omega), UInt64.toNat_and]
    have e : (lN k).toUInt64.toNat = k % 2 ^ 64 := rfl
    have e2 : (Int64.toUInt64 63).toNat = 2 ^ 6 - 1 := by decide
    rw [e, e2, Nat.and_two_pow_sub_one_eq_mod]
    omega
  rw [uN_shr, h]
/-! ===== unsigned comparison by xor with the least ===== -/
theorem lN_bv (n : Nat) : (lN n).toBitVec = BitVec.ofNat 64 n := rfl
theorem lN_nat {n : Nat} (h : n < 2 ^ 64) : (lN n).toBitVec.toNat = n := by rw [lN_bv, BitVec.toNat_ofNat]; exact Nat.mod_eq_of_lt h
theorem lN_xor (a b : Nat) : lN a ^^^ lN b = lN (a ^^^ b) := by
  apply Int64.toBitVec_inj.mp; rw [Int64.toBitVec_xor, lN_bv, lN_bv, lN_bv]; apply BitVec.eq_of_getLsbD_eq; intro i hi; simp [BitVec.getLsbD_ofNat, Nat.testBit_xor, hi]
theorem lN_ti {m : Nat} (h : m < 2 ^ 64) : (lN m).toInt = if m < 2 ^ 63 then (m : Int) else (m : Int) - 2 ^ 64 := by
  have c := BitVec.toInt_eq_toNat_cond (lN m).toBitVec
  rw [lN_nat h] at c
  show (lN m).toBitVec.toInt = _
  rw [c]
  split <;> split <;> omega
theorem xor63 {x : Nat} (h : x < 2 ^ 63) : x ^^^ 2 ^ 63 = 2 ^ 63 + x := by
  apply Nat.eq_of_testBit_eq
  intro i
  rw [Nat.testBit_xor, Nat.testBit_two_pow]
  rcases Nat.lt_trichotomy i 63 with z | z | z
  · rw [Nat.testBit_two_pow_add_gt z, decide_eq_false (by omega)]; simp
  · subst z; rw [Nat.testBit_two_pow_add_eq]; simp
  · have hp : 2 ^ 64 ≤ 2 ^ i := Nat.pow_le_pow_right (by decide) z
    rw [Nat.testBit_lt_two_pow (show x < 2 ^ i by omega), Nat.testBit_lt_two_pow (show 2 ^ 63 + x < 2 ^ i by omega), decide_eq_false (by omega)]; rfl
theorem xorS {a : Nat} (h : a < 2 ^ 64) : (lN a ^^^ (-9223372036854775808)).toInt = (a : Int) - 2 ^ 63 := by
  rw [show (-9223372036854775808 : Int64) = lN (2 ^ 63) from by decide +kernel, lN_xor]
  rcases Nat.lt_or_ge a (2 ^ 63) with z | z
  · rw [xor63 z, lN_ti (by omega), if_neg (by omega)]; omega
  · obtain ⟨x, rfl⟩ : ∃ x, a = 2 ^ 63 + x := ⟨a - 2 ^ 63, by omega⟩
    rw [← xor63 (by omega), Nat.xor_assoc, Nat.xor_self, Nat.xor_zero, lN_ti (by omega), if_pos (by omega), xor63 (by omega)]; omega
theorem ultL {a b : Nat} (ha : a < 2 ^ 64) (hb : b < 2 ^ 64) : ((lN b ^^^ (-9223372036854775808)) ≤ (lN a ^^^ (-9223372036854775808))) ↔ b ≤ a := by
  rw [Int64.le_iff_toInt_le, xorS ha, xorS hb]; omega
/-! ===== Int64 masks of n low bits ===== -/
theorem cr_bits (W U M : BitVec 64) : ((W &&& U) &&& (U &&& (M ^^^ BitVec.allOnes 64))) = 0#64 ↔ (W &&& U) &&& M = W &&& U := by
  constructor
  · intro h
    apply BitVec.eq_of_getLsbD_eq
    intro i hi
    have e := congrArg (fun x => BitVec.getLsbD x i) h
    simp only [BitVec.getLsbD_and, BitVec.getLsbD_xor, BitVec.getLsbD_allOnes, BitVec.getLsbD_zero, hi, decide_true] at e ⊢
    revert e
    cases W.getLsbD i <;> cases U.getLsbD i <;> cases M.getLsbD i <;> decide
  · intro h
    apply BitVec.eq_of_getLsbD_eq
    intro i hi
    have e := congrArg (fun x => BitVec.getLsbD x i) h
    simp only [BitVec.getLsbD_and, BitVec.getLsbD_xor, BitVec.getLsbD_allOnes, BitVec.getLsbD_zero, hi, decide_true] at e ⊢
    revert e
    cases W.getLsbD i <;> cases U.getLsbD i <;> cases M.getLsbD i <;> decide
theorem cr_mask (w U m : Int64) (n : Nat) (hm : m.toBitVec.toNat = 2 ^ n - 1) : ((w &&& U) &&& (U &&& (m ^^^ (-1)))) = 0 ↔ (w &&& U).toBitVec.toNat < 2 ^ n := by
  have e0 : (-1 : Int64).toBitVec = BitVec.allOnes 64 := by decide
  have z0 : (0 : Int64).toBitVec = 0#64 := by decide
  rw [← Int64.toBitVec_inj, z0, Int64.toBitVec_and, Int64.toBitVec_and, Int64.toBitVec_and, Int64.toBitVec_xor, e0, cr_bits]
  generalize w.toBitVec &&& U.toBitVec = T
  rw [← BitVec.toNat_inj, BitVec.toNat_and, hm, Nat.and_two_pow_sub_one_eq_mod]
  constructor
  · intro h
    have t := Nat.mod_lt T.toNat (Nat.two_pow_pos n)
    rw [h] at t
    exact t
  · exact Nat.mod_eq_of_lt
theorem cr_shr (t : Int64) (x : UInt64) (n : Nat) (hx : x.toNat % 64 = n) : (t.toUInt64 >>> x).toInt64 = 0 ↔ t.toBitVec.toNat < 2 ^ n := by
  rw [← Int64.toBitVec_inj, ← BitVec.toNat_inj]
  show (t.toUInt64 >>> x).toNat = 0 ↔ t.toUInt64.toNat < 2 ^ n
  rw [UInt64.toNat_shiftRight, hx, Nat.shiftRight_eq_div_pow]
  constructor
  · intro h
    have d : t.toUInt64.toNat / 2 ^ n < 1 := by
      rw [h]
      decide
    have e := (Nat.div_lt_iff_lt_mul (Nat.two_pow_pos n)).mp d
    rw [Nat.one_mul] at e
    exact e
  · exact Nat.div_eq_of_lt
theorem cr_amt (s : Int64) : ∃ n, n < 64 ∧ s &&& 63 = lN n ∧ (s.toUInt64 &&& Int64.toUInt64 63).toNat % 64 = n := by
  have e : (s.toUInt64 &&& Int64.toUInt64 63).toNat = s.toUInt64.toNat % 2 ^ 6 := by
    rw [UInt64.toNat_and, show (Int64.toUInt64 63).toNat = 2 ^ 6 - 1 from by decide, Nat.and_two_pow_sub_one_eq_mod]
  refine ⟨s.toUInt64.toNat % 2 ^ 6, by omega, ?_, by omega⟩
  rw [← Int64.toBitVec_inj, ← BitVec.toNat_inj]
  show (s.toUInt64 &&& Int64.toUInt64 63).toNat = (BitVec.ofNat 64 (s.toUInt64.toNat % 2 ^ 6)).toNat
  rw [e, BitVec.toNat_ofNat]
  omega
end
section
/-! the pure functions: what the methods answer -/
def dr (a b : Nat) : Int32 := if a < b then nI 1 else if b < a then (-1) else nI 0
def dist (a b : Nat) : Nat := if a < b then b - a else a - b
def lcB (fx fy sx sy : Int32) (k : Nat) : Int32 := nI 1 <<< ((((fy + nI k * sy) * nI 5 + fx) + nI k * sx) &&& 31)
def lcF (fx fy sx sy : Int32) : Nat → Int32
  | 0 => nI 0
  | k + 1 => lcF fx fy sx sy k ||| lcB fx fy sx sy k
def lnN (a b c d : Nat) : Nat := max (dist a c) (dist b d) + 1
def colm (x : Nat) : Int32 := lcF (nI x) (nI 0) (dr x x) (dr 0 4) (lnN x 0 x 4)
def hcC (s : Int32) (x : Nat) : Bool := !decide (s &&& colm x = 0)
def bitI (s : Int32) (j : Nat) : Int32 := (s >>> (nI j &&& 31)) &&& nI 1
def hcR (s : Int32) (x : Nat) : Nat → Bool
  | 0 => false
  | y + 1 => hcR s x y || decide (bitI s (5 * y + x) = nI 1)
def wfF (h : Nat → Bool) : Nat → Int32 × Int32
  | 0 => (-1, -1)
  | k + 1 => if h k then ((if (wfF h k).1 = -1 then nI k else (wfF h k).1), nI k) else wfF h k
def wdF (h : Nat → Bool) : Int32 := if (wfF h 5).1 = -1 then nI 2 else (wfF h 5).2 - (wfF h 5).1 + nI 1
def bsum (s : Int32) : Nat → Int32
  | 0 => nI 0
  | k + 1 => bsum s k + bitI s k
def df (a b : Int32) : Int32 := bsum (a ^^^ b) 25
def dg (t j : Nat) : Nat := t / 8 ^ j % 8
def inB (g : Int32) (n : Nat) : Bool := decide (¬ g < 0 ∧ ¬ nI n ≤ g)
def rgB (g lo hi : Int32) : Bool := decide (¬ g < lo ∧ ¬ hi < g)
def txB (t m : Int32) : Bool := rgB m (nI 1) (nI 5) && rgB t (nI 0) (nI (8 ^ m.toNatClampNeg - 1))
theorem inB_lt {g : Int32} {n : Nat} (h : g < 0) : inB g n = false := by simp [inB, h]
theorem inB_ge {g : Int32} {n : Nat} (h : nI n ≤ g) : inB g n = false := by simp [inB, h]
theorem inB_of {g : Int32} {n : Nat} (h1 : ¬ g < 0) (h2 : ¬ nI n ≤ g) : inB g n = true := by simp [inB, h1, h2]
theorem inB_ex {g : Int32} {n : Nat} (hn : n < 2 ^ 31) (h : inB g n = true) : ∃ k, k < n ∧ g = nI k := by
  simp only [inB, decide_eq_true_eq] at h
  rcases pk_ix g hn with q | q | ⟨j, h1, h2⟩
  · exact absurd q h.1
  · exact absurd q h.2
  · exact ⟨j, h1, h2⟩
theorem inB_nI {k n : Nat} (h : k < n) (hn : n < 2 ^ 31) : inB (nI k) n = true := inB_of (nI_pos (by omega)) (nI_ge h hn)
theorem rg_in (g : Int32) {n : Nat} (hn : n + 1 < 2 ^ 31) : rgB g (nI 0) (nI n) = inB g (n + 1) := by
  rcases pk_ix g hn with q | q | ⟨j, h1, h2⟩
  · rw [inB_lt q]
    have : g < nI 0 := by rw [nI_0]; exact q
    simp [rgB, this]
  · rw [inB_ge q]
    have h2 : nI n < g := by
      have e1 : (nI n).toInt = n := nI_toInt (by omega)
      have e2 : (nI (n + 1)).toInt = (n + 1 : Nat) := nI_toInt hn
      rw [fa_lt, e1]
      rw [fa_le, e2] at q
      omega
    simp [rgB, h2]
  · subst h2
    rw [inB_nI h1 hn]
    have e1 : ¬ nI j < nI 0 := by rw [nI_0]; exact nI_pos (by omega)
    have e2 : ¬ nI n < nI j := nI_nlt (by omega) (by omega)
    simp [rgB, e1, e2]
theorem rg_1 (m : Int32) (h : rgB m (nI 1) (nI 5) = true) : ∃ k, 1 ≤ k ∧ k ≤ 5 ∧ m = nI k := by
  simp only [rgB, decide_eq_true_eq] at h
  have h1 : ¬ m < 0 := fun q => h.1 (by
    rw [fa_lt] at q ⊢
    rw [nI_toInt (by decide)]
    have : (0 : Int32).toInt = 0 := by decide
    omega)
  obtain ⟨j, hj, rfl⟩ := nI_of h1
  have h2 : ¬ j < 1 := fun q => h.1 ((nI_ltI hj (by decide)).mpr q)
  have h3 : ¬ 5 < j := fun q => h.2 ((nI_ltI (by decide) hj).mpr q)
  exact ⟨j, by omega, by omega, rfl⟩
theorem rg_1nI {k : Nat} (h1 : 1 ≤ k) (h2 : k ≤ 5) : rgB (nI k) (nI 1) (nI 5) = true := by
  have e1 : ¬ nI k < nI 1 := nI_nlt h1 (by omega)
  have e2 : ¬ nI 5 < nI k := nI_nlt h2 (by omega)
  simp [rgB, e1, e2]
theorem p8_le {k : Nat} (h : k ≤ 5) : 8 ^ k ≤ 32768 := Nat.pow_le_pow_right (by decide) h
theorem p8_pos (k : Nat) : 0 < 8 ^ k := Nat.pow_pos (by decide)
theorem txB_k {t : Int32} {k : Nat} (h1 : 1 ≤ k) (h2 : k ≤ 5) : txB t (nI k) = inB t (8 ^ k) := by
  have h3 := p8_le h2
  have h4 := p8_pos k
  unfold txB
  rw [rg_1nI h1 h2, nI_clamp (by omega), rg_in t (by omega), Nat.sub_add_cancel (by omega), Bool.true_and]
theorem txB_no {t m : Int32} (h : rgB m (nI 1) (nI 5) = false) : txB t m = false := by unfold txB; rw [h]; rfl
theorem txB_ex {t m : Int32} (h : txB t m = true) : ∃ a k, 1 ≤ k ∧ k ≤ 5 ∧ a < 8 ^ k ∧ t = nI a ∧ m = nI k := by
  have h0 : rgB m (nI 1) (nI 5) = true := by
    unfold txB at h
    cases hr : rgB m (nI 1) (nI 5) with
    | true => rfl
    | false => rw [hr] at h; cases h
  obtain ⟨k, h1, h2, rfl⟩ := rg_1 m h0
  rw [txB_k h1 h2] at h
  obtain ⟨a, h3, h4⟩ := inB_ex (by have := p8_le h2; omega) h
  exact ⟨a, k, h1, h2, h3, h4, rfl⟩
theorem txB_nI {a k : Nat} (h1 : 1 ≤ k) (h2 : k ≤ 5) (h3 : a < 8 ^ k) : txB (nI a) (nI k) = true := by
  rw [txB_k h1 h2]
  exact inB_nI h3 (by have := p8_le h2; omega)
theorem shl8 : ∀ k, k < 6 → nI 1 <<< (nI (3 * k) &&& 31) = nI (8 ^ k) := by decide
theorem mulI (a b : Nat) : nI a * nI b = nI (a * b) := pk_mul a b
theorem absd : ∀ a, a < 5 → ∀ c, c < 5 → (if 0 ≤ nI c - nI a then nI c - nI a else 0 - (nI c - nI a)) = nI (dist a c) := by decide
theorem dist_lt : ∀ a, a < 5 → ∀ c, c < 5 → dist a c < 5 := by decide
theorem maxd : ∀ a, a < 5 → ∀ c, c < 5 → (if nI a < nI c then nI c else nI a) = nI (max a c) := by decide
theorem packN {t k : Nat} (ht : t < 32768) (hk : k ≤ 5) : (nI k <<< (nI 15 &&& 31)) ||| nI t = nI (32768 * k + t) := by
  have e : nI k <<< (nI 15 &&& 31) = nI (2 ^ 15 * k) := by
    have h : ∀ k, k < 6 → nI k <<< (nI 15 &&& 31) = nI (2 ^ 15 * k) := by decide
    exact h k (by omega)
  rw [e]
  exact fa_or_sum (k := 15) k ht
theorem manyN {t k : Nat} (ht : t < 32768) (hk : k ≤ 5) : nI (32768 * k + t) >>> (nI 15 &&& 31) = nI k := by
  rw [pk_shrN (k := 15) (by omega) _ (by decide)]
  congr 1
  omega
theorem numN {t k : Nat} (ht : t < 32768) : nI (32768 * k + t) &&& nI 32767 = nI t := by
  have h : nI (32768 * k + t) &&& nI (2 ^ 15 - 1) = nI ((32768 * k + t) % 2 ^ 15) := fa_mask _ 15
  have e : (32768 * k + t) % 2 ^ 15 = t := by omega
  rw [e] at h
  exact h
theorem dig5 {t k j : Nat} (hj : j < 5) : (32768 * k + t) / 8 ^ j % 8 = dg t j := by
  unfold dg
  have h : j = 0 ∨ j = 1 ∨ j = 2 ∨ j = 3 ∨ j = 4 := by omega
  rcases h with rfl | rfl | rfl | rfl | rfl <;> omega
theorem dg_lt (t j : Nat) : dg t j < 8 := Nat.mod_lt _ (by decide)
theorem glyN {P j : Nat} (hP : P < 2 ^ 31) (hj : j < 5) : (nI P >>> (nI (3 * j) &&& 31)) &&& nI 7 = nI (P / 8 ^ j % 8) := by
  have hs : (((nI (3 * j) &&& 31).toBitVec.smod 32).toNat) = 3 * j := by
    have h : ∀ j, j < 5 → (((nI (3 * j) &&& 31).toBitVec.smod 32).toNat) = 3 * j := by decide
    exact h j hj
  rw [pk_shrN hP _ (3 * j) hs]
  have h := fa_mask (P / 2 ^ (3 * j)) 3
  have e : P / 2 ^ (3 * j) % 2 ^ 3 = P / 8 ^ j % 8 := by rw [Nat.pow_mul]
  rw [e] at h
  exact h
end
section
set_option maxHeartbeats 4000000 in
set_option maxRecDepth 100000 in
theorem c_X0_pairOf (l : Launch) (a b : Nat) : k_M l yX0_pairOf wsX0_pairOf ({ frames := 0, cells := 0, slots := 0, locals := 0 } : Room) [.int (nI a), .int (nI b)] k_tt (some (.int (nI (a * 8 + b)))) := by
  refine k_head (cc := cX0_pairOf) (maxL := 2) (ret := some .int) [(0, .int (nI a)), (1, .int (nI b))] (by decide) rfl (Nat.le_of_ble_eq_true rfl) rfl ?_
  intro p e s m below meth c ls hx hb hr hml hown hts hlocks hname hB hl
  have hown : s.vm.findClass RX0 = some m.cls := hown
  refine lv_iload_n hx hb dX0_pairOf_0 rfl (lv_at hl 0 rfl) ?_
  refine lv_bipush (v := nI 8) hx hb dX0_pairOf_1 (by decide) ?_
  refine lv_imul hx hb dX0_pairOf_3 ?_
  refine lv_as (pk_mul _ _) ?_
  refine lv_iload_n hx hb dX0_pairOf_4 rfl (lv_at hl 1 rfl) ?_
  refine lv_iadd hx hb dX0_pairOf_5 ?_
  refine lv_as (nI_add _ _) ?_
  exact k_iret hx hb hr hlocks dX0_pairOf_6 (rfl)
set_option maxHeartbeats 4000000 in
set_option maxRecDepth 100000 in
theorem c_X0_wayOf (l : Launch) (a b : Nat) : k_M l yX0_wayOf wsX0_wayOf ({ frames := 0, cells := 0, slots := 0, locals := 0 } : Room) [.int (nI a), .int (nI b)] k_tt (some (.int (nI (a * 4 + b)))) := by
  refine k_head (cc := cX0_wayOf) (maxL := 2) (ret := some .int) [(0, .int (nI a)), (1, .int (nI b))] (by decide) rfl (Nat.le_of_ble_eq_true rfl) rfl ?_
  intro p e s m below meth c ls hx hb hr hml hown hts hlocks hname hB hl
  have hown : s.vm.findClass RX0 = some m.cls := hown
  refine lv_iload_n hx hb dX0_wayOf_0 rfl (lv_at hl 0 rfl) ?_
  refine lv_iconst (v := nI 4) hx hb dX0_wayOf_1 (by decide) ?_
  refine lv_imul hx hb dX0_wayOf_2 ?_
  refine lv_as (pk_mul _ _) ?_
  refine lv_iload_n hx hb dX0_wayOf_3 rfl (lv_at hl 1 rfl) ?_
  refine lv_iadd hx hb dX0_wayOf_4 ?_
  refine lv_as (nI_add _ _) ?_
  exact k_iret hx hb hr hlocks dX0_wayOf_5 (rfl)
set_option maxHeartbeats 4000000 in
set_option maxRecDepth 100000 in
theorem c_X0_pack (l : Launch) (t k : Nat) (ht : t < 32768) (hk : k ≤ 5) : k_M l yX0_pack wsX0_pack ({ frames := 0, cells := 0, slots := 0, locals := 0 } : Room) [.int (nI t), .int (nI k)] k_tt (some (.int (nI (32768 * k + t)))) := by
  refine k_head (cc := cX0_pack) (maxL := 2) (ret := some .int) [(0, .int (nI t)), (1, .int (nI k))] (by decide) rfl (Nat.le_of_ble_eq_true rfl) rfl ?_
  intro p e s m below meth c ls hx hb hr hml hown hts hlocks hname hB hl
  have hown : s.vm.findClass RX0 = some m.cls := hown
  refine lv_iload_n hx hb dX0_pack_0 rfl (lv_at hl 1 rfl) ?_
  refine lv_bipush (v := nI 15) hx hb dX0_pack_1 (by decide) ?_
  refine lv_ishl hx hb dX0_pack_3 ?_
  refine lv_iload_n hx hb dX0_pack_4 rfl (lv_at hl 0 rfl) ?_
  refine lv_ior hx hb dX0_pack_5 ?_
  exact k_iret hx hb hr hlocks dX0_pack_6 (packN ht hk)
set_option maxHeartbeats 4000000 in
set_option maxRecDepth 100000 in
theorem c_X0_manyOf (l : Launch) (t k : Nat) (ht : t < 32768) (hk : k ≤ 5) : k_M l yX0_manyOf wsX0_manyOf ({ frames := 0, cells := 0, slots := 0, locals := 0 } : Room) [.int (nI (32768 * k + t))] k_tt (some (.int (nI k))) := by
  refine k_head (cc := cX0_manyOf) (maxL := 1) (ret := some .int) [(0, .int (nI (32768 * k + t)))] (by decide) rfl (Nat.le_of_ble_eq_true rfl) rfl ?_
  intro p e s m below meth c ls hx hb hr hml hown hts hlocks hname hB hl
  have hown : s.vm.findClass RX0 = some m.cls := hown
  refine lv_iload_n hx hb dX0_manyOf_0 rfl (lv_at hl 0 rfl) ?_
  refine lv_bipush (v := nI 15) hx hb dX0_manyOf_1 (by decide) ?_
  refine lv_ishr hx hb dX0_manyOf_3 ?_
  exact k_iret hx hb hr hlocks dX0_manyOf_4 (manyN ht hk)
set_option maxHeartbeats 4000000 in
set_option maxRecDepth 100000 in
theorem c_X0_numberOf (l : Launch) (t k : Nat) (ht : t < 32768) : k_M l yX0_numberOf wsX0_numberOf ({ frames := 0, cells := 0, slots := 0, locals := 0 } : Room) [.int (nI (32768 * k + t))] k_tt (some (.int (nI t))) := by
  refine k_head (cc := cX0_numberOf) (maxL := 1) (ret := some .int) [(0, .int (nI (32768 * k + t)))] (by decide) rfl (Nat.le_of_ble_eq_true rfl) rfl ?_
  intro p e s m below meth c ls hx hb hr hml hown hts hlocks hname hB hl
  have hown : s.vm.findClass RX0 = some m.cls := hown
  refine lv_iload_n hx hb dX0_numberOf_0 rfl (lv_at hl 0 rfl) ?_
  refine lv_sipush (v := nI 32767) hx hb dX0_numberOf_1 (by decide) ?_
  refine lv_iand hx hb dX0_numberOf_4 ?_
  exact k_iret hx hb hr hlocks dX0_numberOf_5 (numN ht)
set_option maxHeartbeats 4000000 in
set_option maxRecDepth 100000 in
theorem c_X0_glyphAt (l : Launch) (t k j : Nat) (ht : t < 32768) (hk : k ≤ 5) (hj : j < 5) : k_M l yX0_glyphAt wsX0_glyphAt ({ frames := 0, cells := 0, slots := 0, locals := 0 } : Room) [.int (nI (32768 * k + t)), .int (nI j)] k_tt (some (.int (nI (dg t j)))) := by
  refine k_head (cc := cX0_glyphAt) (maxL := 2) (ret := some .int) [(0, .int (nI (32768 * k + t))), (1, .int (nI j))] (by decide) rfl (Nat.le_of_ble_eq_true rfl) rfl ?_
  intro p e s m below meth c ls hx hb hr hml hown hts hlocks hname hB hl
  have hown : s.vm.findClass RX0 = some m.cls := hown
  refine lv_iload_n hx hb dX0_glyphAt_0 rfl (lv_at hl 0 rfl) ?_
  refine lv_iconst (v := nI 3) hx hb dX0_glyphAt_1 (by decide) ?_
  refine lv_iload_n hx hb dX0_glyphAt_2 rfl (lv_at hl 1 rfl) ?_
  refine lv_imul hx hb dX0_glyphAt_3 ?_
  refine lv_as (pk_mul _ _) ?_
  refine lv_ishr hx hb dX0_glyphAt_4 ?_
  refine lv_bipush (v := nI 7) hx hb dX0_glyphAt_5 (by decide) ?_
  refine lv_iand hx hb dX0_glyphAt_7 ?_
  exact k_iret hx hb hr hlocks dX0_glyphAt_8 ((glyN (by omega) hj).trans (by rw [dig5 hj]))
set_option maxHeartbeats 4000000 in
set_option maxRecDepth 100000 in
theorem c_X0_isCell (l : Launch) (x y : Int32) : k_M l yX0_isCell wsX0_isCell ({ frames := 0, cells := 0, slots := 0, locals := 0 } : Room) [.int x, .int y] k_tt (some (.int (bI (inB x 5 && inB y 5)))) := by
  refine k_head (cc := cX0_isCell) (maxL := 2) (ret := some .boolean) [(0, .int x), (1, .int y)] (by decide) rfl (Nat.le_of_ble_eq_true rfl) rfl ?_
  intro p e s m below meth c ls hx hb hr hml hown hts hlocks hname hB hl
  have hown : s.vm.findClass RX0 = some m.cls := hown
  refine lv_iload_n hx hb dX0_isCell_0 rfl (lv_at hl 0 rfl) ?_
  refine lv_if_lt (tgt := 22) hx hb dX0_isCell_1 (by decide) (fun c_1 => ?_) (fun c_1 => ?_)
  · refine lv_iconst (v := nI 0) hx hb dX0_isCell_22 (by decide) ?_
    exact k_zret hx hb hr hlocks dX0_isCell_23 (by first | (rw [inB_lt c_1]; rfl) | (rw [inB_ge c_6]; rfl) | (rw [inB_lt c_10, Bool.and_false]; rfl) | (rw [inB_ge c_15, Bool.and_false]; rfl))
  · refine lv_iload_n hx hb dX0_isCell_4 rfl (lv_at hl 0 rfl) ?_
    refine lv_iconst (v := nI 5) hx hb dX0_isCell_5 (by decide) ?_
    refine lv_icmp_ge (tgt := 22) hx hb dX0_isCell_6 (by decide) (fun c_6 => ?_) (fun c_6 => ?_)
    · refine lv_iconst (v := nI 0) hx hb dX0_isCell_22 (by decide) ?_
      exact k_zret hx hb hr hlocks dX0_isCell_23 (by first | (rw [inB_lt c_1]; rfl) | (rw [inB_ge c_6]; rfl) | (rw [inB_lt c_10, Bool.and_false]; rfl) | (rw [inB_ge c_15, Bool.and_false]; rfl))
    · refine lv_iload_n hx hb dX0_isCell_9 rfl (lv_at hl 1 rfl) ?_
      refine lv_if_lt (tgt := 22) hx hb dX0_isCell_10 (by decide) (fun c_10 => ?_) (fun c_10 => ?_)
      · refine lv_iconst (v := nI 0) hx hb dX0_isCell_22 (by decide) ?_
        exact k_zret hx hb hr hlocks dX0_isCell_23 (by first | (rw [inB_lt c_1]; rfl) | (rw [inB_ge c_6]; rfl) | (rw [inB_lt c_10, Bool.and_false]; rfl) | (rw [inB_ge c_15, Bool.and_false]; rfl))
      · refine lv_iload_n hx hb dX0_isCell_13 rfl (lv_at hl 1 rfl) ?_
        refine lv_iconst (v := nI 5) hx hb dX0_isCell_14 (by decide) ?_
        refine lv_icmp_ge (tgt := 22) hx hb dX0_isCell_15 (by decide) (fun c_15 => ?_) (fun c_15 => ?_)
        · refine lv_iconst (v := nI 0) hx hb dX0_isCell_22 (by decide) ?_
          exact k_zret hx hb hr hlocks dX0_isCell_23 (by first | (rw [inB_lt c_1]; rfl) | (rw [inB_ge c_6]; rfl) | (rw [inB_lt c_10, Bool.and_false]; rfl) | (rw [inB_ge c_15, Bool.and_false]; rfl))
        · refine lv_iconst (v := nI 1) hx hb dX0_isCell_18 (by decide) ?_
          refine lv_goto (tgt := 23) hx hb dX0_isCell_19 (by decide) ?_
          exact k_zret hx hb hr hlocks dX0_isCell_23 (by rw [inB_of c_1 c_6, inB_of c_10 c_15]; rfl)
set_option maxHeartbeats 4000000 in
set_option maxRecDepth 100000 in
theorem c_X0_direction (l : Launch) (a b : Nat) (ha : a < 5) (hb5 : b < 5) : k_M l yX0_direction wsX0_direction ({ frames := 0, cells := 0, slots := 0, locals := 0 } : Room) [.int (nI a), .int (nI b)] k_tt (some (.int (dr a b))) := by
  refine k_head (cc := cX0_direction) (maxL := 2) (ret := some .int) [(0, .int (nI a)), (1, .int (nI b))] (by decide) rfl (Nat.le_of_ble_eq_true rfl) rfl ?_
  intro p e s m below meth c ls hx hb hr hml hown hts hlocks hname hB hl
  have hown : s.vm.findClass RX0 = some m.cls := hown
  refine lv_iload_n hx hb dX0_direction_0 rfl (lv_at hl 1 rfl) ?_
  refine lv_iload_n hx hb dX0_direction_1 rfl (lv_at hl 0 rfl) ?_
  refine n_icmp_le (tgt := 9) hx hb dX0_direction_2 (by decide) (by omega) (by omega) (fun c_2 => ?_) (fun c_2 => ?_)
  · refine lv_iload_n hx hb dX0_direction_9 rfl (lv_at hl 1 rfl) ?_
    refine lv_iload_n hx hb dX0_direction_10 rfl (lv_at hl 0 rfl) ?_
    refine n_icmp_ge (tgt := 18) hx hb dX0_direction_11 (by decide) (by omega) (by omega) (fun c_11 => ?_) (fun c_11 => ?_)
    · refine lv_iconst (v := nI 0) hx hb dX0_direction_18 (by decide) ?_
      exact k_iret hx hb hr hlocks dX0_direction_19 (by rw [dr, if_neg (Nat.not_lt.mpr c_2), if_neg (Nat.not_lt.mpr c_11)])
    · refine lv_iconst (v := (-1)) hx hb dX0_direction_14 (by decide) ?_
      refine lv_goto (tgt := 19) hx hb dX0_direction_15 (by decide) ?_
      exact k_iret hx hb hr hlocks dX0_direction_19 (by rw [dr, if_neg (Nat.not_lt.mpr c_2), if_pos c_11])
  · refine lv_iconst (v := nI 1) hx hb dX0_direction_5 (by decide) ?_
    refine lv_goto (tgt := 19) hx hb dX0_direction_6 (by decide) ?_
    exact k_iret hx hb hr hlocks dX0_direction_19 (by rw [dr, if_pos c_2])
end
section
/-! Integer.bitCount against the sum of 25 bits -/
def pcn (n : Nat) : Nat → Nat
  | 0 => 0
  | k + 1 => pcn n k + n / 2 ^ k % 2
theorem bitI_nI {n : Nat} (hn : n < 2 ^ 31) {k : Nat} (hk : k < 32) : bitI (nI n) k = nI (n / 2 ^ k % 2) := by
  unfold bitI
  rw [pk_shrN hn _ k (s_l k hk)]
  exact fa_mask _ 1
theorem bsum_nI {n : Nat} (hn : n < 2 ^ 31) : ∀ k, k ≤ 25 → bsum (nI n) k = nI (pcn n k) := by
  intro k
  induction k with
  | zero => intro _; rfl
  | succ k ih =>
    intro hk
    show bsum (nI n) k + bitI (nI n) k = nI (pcn n k + n / 2 ^ k % 2)
    rw [ih (by omega), bitI_nI hn (by omega), nI_add]
def bc1 (x : Int32) : Int32 := x - ((x.toUInt32 >>> ((nI 1).toUInt32 &&& Int32.toUInt32 31)).toInt32 &&& 1431655765)
def bc2 (x : Int32) : Int32 := (x &&& 858993459) + ((x.toUInt32 >>> ((nI 2).toUInt32 &&& Int32.toUInt32 31)).toInt32 &&& 858993459)
def bc3 (x : Int32) : Int32 := (x + (x.toUInt32 >>> ((nI 4).toUInt32 &&& Int32.toUInt32 31)).toInt32) &&& 252645135
def bc4 (x : Int32) : Int32 := x + (x.toUInt32 >>> ((nI 8).toUInt32 &&& Int32.toUInt32 31)).toInt32
def bc5 (x : Int32) : Int32 := x + (x.toUInt32 >>> ((nI 16).toUInt32 &&& Int32.toUInt32 31)).toInt32
def bcJ (x : Int32) : Int32 := bc5 (bc4 (bc3 (bc2 (bc1 x)))) &&& nI 63
def q1 (d n : Nat) : Nat := n - ((n / 2) &&& d)
def q2 (d n : Nat) : Nat := (n &&& d) + ((n / 4) &&& d)
def q3 (d n : Nat) : Nat := (n + n / 16) &&& d
theorem and8 {a c : Nat} (m d : Nat) (ha : a < 256) (hc : c < 256) : (a + 256 * m) &&& (c + 256 * d) = (a &&& c) + 256 * (m &&& d) := by
  have e1 : a + 256 * m = 2 ^ 8 * m + a := by omega
  have e2 : c + 256 * d = 2 ^ 8 * d + c := by omega
  have h3 : a &&& c < 2 ^ 8 := Nat.lt_of_le_of_lt Nat.and_le_left ha
  have e3 : (a &&& c) + 256 * (m &&& d) = 2 ^ 8 * (m &&& d) + (a &&& c) := by omega
  rw [e1, e2, e3]
  apply Nat.eq_of_testBit_eq
  intro i
  rw [Nat.testBit_and, Nat.testBit_two_pow_mul_add _ ha, Nat.testBit_two_pow_mul_add _ hc, Nat.testBit_two_pow_mul_add _ h3]
  by_cases h : i < 8 <;> simp [h, Nat.testBit_and]
theorem tab1 : ∀ a, a < 256 → ∀ t, t < 2 → (a / 2 + 128 * t) &&& 85 = (a / 2) &&& 85 := by decide +kernel
theorem tab2 : ∀ a, a < 256 → ∀ t, t < 4 → (a / 4 + 64 * t) &&& 51 = (a / 4) &&& 51 := by decide +kernel
theorem tab3 : ∀ a, a < 69 → ∀ t, t < 5 → (a + a / 16 + 16 * t) &&& 15 = (a + a / 16) &&& 15 := by decide +kernel
theorem tab4 : ∀ a, a < 256 → q1 85 a < 256 ∧ q2 51 (q1 85 a) % 16 < 5 ∧ q2 51 (q1 85 a) / 16 < 5 ∧ q3 15 (q2 51 (q1 85 a)) = pcn a 8 ∧ pcn a 8 ≤ 8 := by decide +kernel
theorem q1_s {a m d : Nat} (ha : a < 256) : q1 (85 + 256 * d) (a + 256 * m) = q1 85 a + 256 * q1 d m := by
  have e : (a + 256 * m) / 2 = (a / 2 + 128 * (m % 2)) + 256 * (m / 2) := by omega
  have t := tab1 a ha (m % 2) (Nat.mod_lt _ (by decide))
  have l1 : (a / 2) &&& 85 ≤ a := Nat.le_trans Nat.and_le_left (Nat.div_le_self _ _)
  have l2 : (m / 2) &&& d ≤ m := Nat.le_trans Nat.and_le_left (Nat.div_le_self _ _)
  unfold q1
  rw [e, and8 _ _ (by omega) (by decide), t]
  omega
theorem q2_s {a m d : Nat} (ha : a < 256) : q2 (51 + 256 * d) (a + 256 * m) = q2 51 a + 256 * q2 d m := by
  have e : (a + 256 * m) / 4 = (a / 4 + 64 * (m % 4)) + 256 * (m / 4) := by omega
  have t := tab2 a ha (m % 4) (Nat.mod_lt _ (by decide))
  unfold q2
  rw [e, and8 m d ha (by decide), and8 (m / 4) d (by omega) (by decide), t]
  omega
theorem q3_s {a m d : Nat} (h1 : a % 16 < 5) (h2 : a / 16 < 5) (hm : m % 16 < 5) : q3 (15 + 256 * d) (a + 256 * m) = q3 15 a + 256 * q3 d m := by
  have e : (a + 256 * m) + (a + 256 * m) / 16 = (a + a / 16 + 16 * (m % 16)) + 256 * (m + m / 16) := by omega
  have t := tab3 a (by omega) (m % 16) hm
  unfold q3
  rw [e, and8 _ _ (by omega) (by decide), t]
theorem pcn_lo {a m : Nat} : pcn (a + 256 * m) 8 = pcn a 8 := by
  simp only [pcn]
  omega
theorem pcn_hi {a m : Nat} (ha : a < 256) : ∀ j, pcn (a + 256 * m) (8 + j) = pcn a 8 + pcn m j := by
  intro j
  induction j with
  | zero => rw [Nat.add_zero]; exact pcn_lo
  | succ j ih =>
    show pcn (a + 256 * m) (8 + j) + (a + 256 * m) / 2 ^ (8 + j) % 2 = pcn a 8 + (pcn m j + m / 2 ^ j % 2)
    have e : (a + 256 * m) / 2 ^ (8 + j) = m / 2 ^ j := by
      rw [Nat.pow_add, ← Nat.div_div_eq_div_mul]
      congr 1
      omega
    rw [ih, e]
    omega
theorem q_all {a b c d : Nat} (ha : a < 256) (hb : b < 256) (hc : c < 256) (hd : d < 256) : q3 252645135 (q2 858993459 (q1 1431655765 (a + 256 * (b + 256 * (c + 256 * d))))) = pcn a 8 + 256 * (pcn b 8 + 256 * (pcn c 8 + 256 * pcn d 8)) := by
  obtain ⟨a1, a2, a3, a4, -⟩ := tab4 a ha
  obtain ⟨b1, b2, b3, b4, -⟩ := tab4 b hb
  obtain ⟨c1, c2, c3, c4, -⟩ := tab4 c hc
  obtain ⟨d1, d2, d3, d4, -⟩ := tab4 d hd
  have e1 : (1431655765 : Nat) = 85 + 256 * (85 + 256 * (85 + 256 * 85)) := by decide
  have e2 : (858993459 : Nat) = 51 + 256 * (51 + 256 * (51 + 256 * 51)) := by decide
  have e3 : (252645135 : Nat) = 15 + 256 * (15 + 256 * (15 + 256 * 15)) := by decide
  rw [e1, e2, e3, q1_s ha, q1_s hb, q1_s hc, q2_s a1, q2_s b1, q2_s c1, q3_s a2 a3 (by omega), q3_s b2 b3 (by omega), q3_s c2 c3 (by omega), a4, b4, c4, d4]
theorem bc_end {w0 w1 w2 w3 : Nat} (h0 : w0 ≤ 8) (h1 : w1 ≤ 8) (h2 : w2 ≤ 8) (h3 : w3 ≤ 8) : (w0 + 256 * (w1 + 256 * (w2 + 256 * w3)) + (w0 + 256 * (w1 + 256 * (w2 + 256 * w3))) / 2 ^ 8 + (w0 + 256 * (w1 + 256 * (w2 + 256 * w3)) + (w0 + 256 * (w1 + 256 * (w2 + 256 * w3))) / 2 ^ 8) / 2 ^ 16) % 2 ^ 6 = w0 + (w1 + (w2 + w3)) := by
  have k1 : (w0 + 256 * (w1 + 256 * (w2 + 256 * w3))) / 2 ^ 8 = w1 + 256 * (w2 + 256 * w3) := by omega
  rw [k1]
  have k2 : (w0 + 256 * (w1 + 256 * (w2 + 256 * w3)) + (w1 + 256 * (w2 + 256 * w3))) / 2 ^ 16 = w2 + w3 + 256 * w3 := by omega
  rw [k2]
  have k3 : w0 + 256 * (w1 + 256 * (w2 + 256 * w3)) + (w1 + 256 * (w2 + 256 * w3)) + (w2 + w3 + 256 * w3) = (w0 + (w1 + (w2 + w3))) + 64 * (4 * (w1 + 256 * (w2 + 256 * w3)) + 4 * (w2 + 256 * w3) + 4 * w3) := by omega
  rw [k3, Nat.add_mul_mod_self_left]
  exact Nat.mod_eq_of_lt (by omega)
theorem bc_pcn {n : Nat} (hn : n < 2 ^ 25) : bcJ (nI n) = nI (pcn n 25) := by
  have en : n = n % 256 + 256 * (n / 256 % 256 + 256 * (n / 65536 % 256 + 256 * (n / 16777216))) := by omega
  have ha : n % 256 < 256 := Nat.mod_lt _ (by decide)
  have hb : n / 256 % 256 < 256 := Nat.mod_lt _ (by decide)
  have hc : n / 65536 % 256 < 256 := Nat.mod_lt _ (by decide)
  have hd : n / 16777216 < 2 := by omega
  generalize n % 256 = a at en ha
  generalize n / 256 % 256 = b at en hb
  generalize n / 65536 % 256 = c at en hc
  generalize n / 16777216 = d at en hd
  obtain ⟨-, -, -, -, a5⟩ := tab4 a ha
  obtain ⟨-, -, -, -, b5⟩ := tab4 b hb
  obtain ⟨-, -, -, -, c5⟩ := tab4 c hc
  obtain ⟨-, -, -, -, d5⟩ := tab4 d (by omega)
  have hq := q_all ha hb hc (d := d) (by omega)
  rw [← en] at hq
  have h1 : bc1 (nI n) = nI (q1 1431655765 n) := by
    unfold bc1
    rw [pk_ushrN (by omega) _ 1 (by decide), show (1431655765 : Int32) = nI 1431655765 from by decide, fa_and, pk_sub (Nat.le_trans Nat.and_le_left (Nat.div_le_self _ _))]
    rfl
  have l1 : q1 1431655765 n ≤ n := Nat.sub_le _ _
  generalize q1 1431655765 n = n1 at h1 hq l1
  have h2 : bc2 (nI n1) = nI (q2 858993459 n1) := by
    unfold bc2
    rw [pk_ushrN (by omega) _ 2 (by decide), show (858993459 : Int32) = nI 858993459 from by decide, fa_and, fa_and, nI_add]
    rfl
  have l2 : q2 858993459 n1 ≤ n1 + n1 / 4 := Nat.add_le_add Nat.and_le_left Nat.and_le_left
  generalize q2 858993459 n1 = n2 at h2 hq l2
  have h3 : bc3 (nI n2) = nI (q3 252645135 n2) := by
    unfold bc3
    rw [pk_ushrN (by omega) _ 4 (by decide), show (252645135 : Int32) = nI 252645135 from by decide, nI_add, fa_and]
    rfl
  have hp : pcn n 25 = pcn a 8 + (pcn b 8 + (pcn c 8 + pcn d 1)) := by
    rw [en]
    rw [show (25 : Nat) = 8 + (8 + (8 + 1)) from rfl, pcn_hi ha, pcn_hi hb, pcn_hi hc]
  have hd8 : pcn d 8 = pcn d 1 := by
    have h : ∀ d, d < 2 → pcn d 8 = pcn d 1 := by decide
    exact h d hd
  rw [hq, hd8] at h3
  rw [hd8] at d5
  generalize pcn a 8 = w0 at *
  generalize pcn b 8 = w1 at *
  generalize pcn c 8 = w2 at *
  generalize pcn d 1 = w3 at *
  unfold bcJ
  rw [h1, h2, h3]
  unfold bc4 bc5
  rw [pk_ushrN (by omega) _ 8 (by decide), nI_add, pk_ushrN (by omega) _ 16 (by decide), nI_add, show nI 63 = nI (2 ^ 6 - 1) from rfl, fa_mask, hp, bc_end a5 b5 c5 d5]
theorem bc_bsum {n : Nat} (hn : n < 2 ^ 25) : bcJ (nI n) = bsum (nI n) 25 := by rw [bc_pcn hn, bsum_nI (by omega) 25 (Nat.le_refl _)]
/-- a shape: 25 bits -/
def S25 (x : Int32) : Prop := ∃ n, n < 2 ^ 25 ∧ x = nI n
theorem S25_0 : S25 (nI 0) := ⟨0, by decide, rfl⟩
theorem S25_xor {x y : Int32} (hx : S25 x) (hy : S25 y) : S25 (x ^^^ y) := by
  obtain ⟨a, ha, rfl⟩ := hx
  obtain ⟨b, hb, rfl⟩ := hy
  exact ⟨a ^^^ b, Nat.xor_lt_two_pow ha hb, nx_xor a b⟩
theorem S25_or {x y : Int32} (hx : S25 x) (hy : S25 y) : S25 (x ||| y) := by
  obtain ⟨a, ha, rfl⟩ := hx
  obtain ⟨b, hb, rfl⟩ := hy
  exact ⟨a ||| b, Nat.or_lt_two_pow ha hb, fa_or a b⟩
theorem S25_and {x : Int32} (y : Int32) (hx : S25 x) : S25 (x &&& y) := by
  obtain ⟨a, ha, rfl⟩ := hx
  obtain ⟨b, hb, rfl⟩ := wb_of32 y
  exact ⟨a &&& b, Nat.lt_of_le_of_lt Nat.and_le_left ha, nx_and a b⟩
theorem bc_df {x y : Int32} (hx : S25 x) (hy : S25 y) : bcJ (x ^^^ y) = df x y := by
  obtain ⟨n, hn, e⟩ := S25_xor hx hy
  unfold df
  rw [e]
  exact bc_bsum hn
end
section
theorem rg_f1 {v lo hi : Int32} (h : v < lo) : nI 0 = bI (rgB v lo hi) := by simp [rgB, h]; rfl
theorem rg_f2 {v lo hi : Int32} (h : hi < v) : nI 0 = bI (rgB v lo hi) := by simp [rgB, h]; rfl
theorem rg_t {v lo hi : Int32} (h1 : ¬ v < lo) (h2 : ¬ hi < v) : nI 1 = bI (rgB v lo hi) := by simp [rgB, h1, h2]; rfl
theorem tx_rg (t : Int32) {k : Nat} (h1 : 1 ≤ k) (h2 : k ≤ 5) : rgB t (nI 0) (nI (8 ^ k - 1)) = txB t (nI k) := by
  have h3 := p8_le h2
  have h4 := p8_pos k
  rw [txB_k h1 h2, rg_in t (by omega), Nat.sub_add_cancel (by omega)]
theorem wfF_t {h : Nat → Bool} {k : Nat} (e : h k = true) : wfF h (k + 1) = ((if (wfF h k).1 = -1 then nI k else (wfF h k).1), nI k) := by
  show (if h k then _ else _) = _
  rw [if_pos e]
theorem wfF_f {h : Nat → Bool} {k : Nat} (e : h k = false) : wfF h (k + 1) = wfF h k := by
  show (if h k then _ else _) = _
  rw [if_neg (by rw [e]; decide)]
theorem bI_c {b c : Bool} (h : b = c) : bI b = bI c := by rw [h]
set_option maxHeartbeats 4000000 in
set_option maxRecDepth 100000 in
theorem c_J6_bitCount_0f7a4 (l : Launch) (x : Int32) : k_M l yJ6_bitCount_0f7a4 wsJ6_bitCount_0f7a4 ({ frames := 0, cells := 0, slots := 0, locals := 0 } : Room) [.int x] k_tt (some (.int (bcJ x))) := by
  refine k_head (cc := cJ6_bitCount_0f7a4) (maxL := 1) (ret := some .int) [(0, .int x)] (by decide) rfl (Nat.le_of_ble_eq_true rfl) rfl ?_
  intro p e s m below meth c ls hx hb hr hml hown hts hlocks hname hB hl
  have hown : s.vm.findClass RJ6 = some m.cls := hown
  refine lv_iload_n hx hb dJ6_bitCount_0f7a4_0 rfl (lv_at hl 0 rfl) ?_
  refine lv_iload_n hx hb dJ6_bitCount_0f7a4_1 rfl (lv_at hl 0 rfl) ?_
  refine lv_iconst (v := nI 1) hx hb dJ6_bitCount_0f7a4_2 (by decide) ?_
  refine lv_iushr (v := (x.toUInt32 >>> ((nI 1).toUInt32 &&& Int32.toUInt32 31)).toInt32) hx hb dJ6_bitCount_0f7a4_3 rfl ?_
  refine lv_ldcw (own := RJ6) (v := 1431655765) hx hb hown (hts (.constant RJ6 265 (1431655765)) (by decide +kernel)) dJ6_bitCount_0f7a4_4 ?_
  refine lv_iand hx hb dJ6_bitCount_0f7a4_7 ?_
  refine lv_isub hx hb dJ6_bitCount_0f7a4_8 ?_
  refine lv_as (y := bc1 x) (rfl) ?_
  refine lv_istore_n (lv' := [(0, .int (bc1 x))]) hx hb dJ6_bitCount_0f7a4_9 rfl hl (by decide) rfl (fun ls hl => ?_)
  refine lv_iload_n hx hb dJ6_bitCount_0f7a4_10 rfl (lv_at hl 0 rfl) ?_
  refine lv_ldcw (own := RJ6) (v := 858993459) hx hb hown (hts (.constant RJ6 266 (858993459)) (by decide +kernel)) dJ6_bitCount_0f7a4_11 ?_
  refine lv_iand hx hb dJ6_bitCount_0f7a4_14 ?_
  refine lv_iload_n hx hb dJ6_bitCount_0f7a4_15 rfl (lv_at hl 0 rfl) ?_
  refine lv_iconst (v := nI 2) hx hb dJ6_bitCount_0f7a4_16 (by decide) ?_
  refine lv_iushr (v := ((bc1 x).toUInt32 >>> ((nI 2).toUInt32 &&& Int32.toUInt32 31)).toInt32) hx hb dJ6_bitCount_0f7a4_17 rfl ?_
  refine lv_ldcw (own := RJ6) (v := 858993459) hx hb hown (hts (.constant RJ6 266 (858993459)) (by decide +kernel)) dJ6_bitCount_0f7a4_18 ?_
  refine lv_iand hx hb dJ6_bitCount_0f7a4_21 ?_
  refine lv_iadd hx hb dJ6_bitCount_0f7a4_22 ?_
  refine lv_as (y := bc2 (bc1 x)) (rfl) ?_
  refine lv_istore_n (lv' := [(0, .int (bc2 (bc1 x)))]) hx hb dJ6_bitCount_0f7a4_23 rfl hl (by decide) rfl (fun ls hl => ?_)
  refine lv_iload_n hx hb dJ6_bitCount_0f7a4_24 rfl (lv_at hl 0 rfl) ?_
  refine lv_iload_n hx hb dJ6_bitCount_0f7a4_25 rfl (lv_at hl 0 rfl) ?_
  refine lv_iconst (v := nI 4) hx hb dJ6_bitCount_0f7a4_26 (by decide) ?_
  refine lv_iushr (v := ((bc2 (bc1 x)).toUInt32 >>> ((nI 4).toUInt32 &&& Int32.toUInt32 31)).toInt32) hx hb dJ6_bitCount_0f7a4_27 rfl ?_
  refine lv_iadd hx hb dJ6_bitCount_0f7a4_28 ?_
  refine lv_ldcw (own := RJ6) (v := 252645135) hx hb hown (hts (.constant RJ6 267 (252645135)) (by decide +kernel)) dJ6_bitCount_0f7a4_29 ?_
  refine lv_iand hx hb dJ6_bitCount_0f7a4_32 ?_
  refine lv_as (y := bc3 (bc2 (bc1 x))) (rfl) ?_
  refine lv_istore_n (lv' := [(0, .int (bc3 (bc2 (bc1 x))))]) hx hb dJ6_bitCount_0f7a4_33 rfl hl (by decide) rfl (fun ls hl => ?_)
  refine lv_iload_n hx hb dJ6_bitCount_0f7a4_34 rfl (lv_at hl 0 rfl) ?_
  refine lv_iload_n hx hb dJ6_bitCount_0f7a4_35 rfl (lv_at hl 0 rfl) ?_
  refine lv_bipush (v := nI 8) hx hb dJ6_bitCount_0f7a4_36 (by decide) ?_
  refine lv_iushr (v := ((bc3 (bc2 (bc1 x))).toUInt32 >>> ((nI 8).toUInt32 &&& Int32.toUInt32 31)).toInt32) hx hb dJ6_bitCount_0f7a4_38 rfl ?_
  refine lv_iadd hx hb dJ6_bitCount_0f7a4_39 ?_
  refine lv_as (y := bc4 (bc3 (bc2 (bc1 x)))) (rfl) ?_
  refine lv_istore_n (lv' := [(0, .int (bc4 (bc3 (bc2 (bc1 x)))))]) hx hb dJ6_bitCount_0f7a4_40 rfl hl (by decide) rfl (fun ls hl => ?_)
  refine lv_iload_n hx hb dJ6_bitCount_0f7a4_41 rfl (lv_at hl 0 rfl) ?_
  refine lv_iload_n hx hb dJ6_bitCount_0f7a4_42 rfl (lv_at hl 0 rfl) ?_
  refine lv_bipush (v := nI 16) hx hb dJ6_bitCount_0f7a4_43 (by decide) ?_
  refine lv_iushr (v := ((bc4 (bc3 (bc2 (bc1 x)))).toUInt32 >>> ((nI 16).toUInt32 &&& Int32.toUInt32 31)).toInt32) hx hb dJ6_bitCount_0f7a4_45 rfl ?_
  refine lv_iadd hx hb dJ6_bitCount_0f7a4_46 ?_
  refine lv_istore_n (lv' := [(0, .int ((bc4 (bc3 (bc2 (bc1 x)))) + (((bc4 (bc3 (bc2 (bc1 x)))).toUInt32 >>> ((nI 16).toUInt32 &&& Int32.toUInt32 31)).toInt32)))]) hx hb dJ6_bitCount_0f7a4_47 rfl hl (by decide) rfl (fun ls hl => ?_)
  refine lv_iload_n hx hb dJ6_bitCount_0f7a4_48 rfl (lv_at hl 0 rfl) ?_
  refine lv_bipush (v := nI 63) hx hb dJ6_bitCount_0f7a4_49 (by decide) ?_
  refine lv_iand hx hb dJ6_bitCount_0f7a4_51 ?_
  exact k_iret hx hb hr hlocks dJ6_bitCount_0f7a4_52 (rfl)
set_option maxHeartbeats 4000000 in
set_option maxRecDepth 100000 in
theorem c_X0_differing (l : Launch) (x y : Int32) (h1 : S25 x) (h2 : S25 y) : k_M l yX0_differing wsX0_differing ({ frames := 1, cells := 0, slots := 0, locals := 20 } : Room) [.int x, .int y] k_tt (some (.int (df x y))) := by
  refine k_head (cc := cX0_differing) (maxL := 2) (ret := some .int) [(0, .int x), (1, .int y)] (by decide) rfl (Nat.le_of_ble_eq_true rfl) rfl ?_
  intro p e s m below meth c ls hx hb hr hml hown hts hlocks hname hB hl
  have hown : s.vm.findClass RX0 = some m.cls := hown
  refine lv_iload_n hx hb dX0_differing_0 rfl (lv_at hl 0 rfl) ?_
  refine lv_iload_n hx hb dX0_differing_1 rfl (lv_at hl 1 rfl) ?_
  refine lv_ixor hx hb dX0_differing_2 ?_
  refine k_callSi (As := [.int (x ^^^ y)]) (rest := []) ⟨hx, hb, hml, hown, hts⟩ (c_J6_bitCount_0f7a4 l (x ^^^ y)) (va_cwS 1 hts gX0_differing_J6_bitCount_0f7a4 rfl rfl rfl (by decide +kernel) ⟨Nat.le_of_ble_eq_true rfl, Nat.le_of_ble_eq_true rfl⟩) k_bl_tt (fun _ _ _ => trivial) rfl hl.1 rfl (Nat.le_of_ble_eq_true rfl) dX0_differing_3 ⟨Nat.zero_le _, Nat.zero_le _⟩ ?_
  exact k_iret hx hb hr hlocks dX0_differing_6 (bc_df h1 h2)
set_option maxHeartbeats 4000000 in
set_option maxRecDepth 100000 in
theorem c_X0_lineCells (l : Launch) (a b c1 d1 : Nat) (ha : a < 5) (hb5 : b < 5) (hc : c1 < 5) (hd : d1 < 5) : k_M l yX0_lineCells wsX0_lineCells ({ frames := 1, cells := 0, slots := 0, locals := 23 } : Room) [.int (nI a), .int (nI b), .int (nI c1), .int (nI d1)] k_tt (some (.int (lcF (nI a) (nI b) (dr a c1) (dr b d1) (lnN a b c1 d1)))) := by
  refine k_head (cc := cX0_lineCells) (maxL := 9) (ret := some .int) [(0, .int (nI a)), (1, .int (nI b)), (2, .int (nI c1)), (3, .int (nI d1))] (by decide) rfl (Nat.le_of_ble_eq_true rfl) rfl ?_
  intro p e s m below meth c ls hx hb hr hml hown hts hlocks hname hB hl
  have hown : s.vm.findClass RX0 = some m.cls := hown
  have hda : dist a c1 < 5 := dist_lt a ha c1 hc
  have hdb : dist b d1 < 5 := dist_lt b hb5 d1 hd
  have hmx : max (dist a c1) (dist b d1) < 5 := by omega
  have hln : lnN a b c1 d1 = max (dist a c1) (dist b d1) + 1 := rfl
  refine lv_iload_n hx hb dX0_lineCells_0 rfl (lv_at hl 2 rfl) ?_
  refine lv_iload_n hx hb dX0_lineCells_1 rfl (lv_at hl 0 rfl) ?_
  refine lv_isub hx hb dX0_lineCells_2 ?_
  refine va_mabs (index := 154) hx hb (by rw [hml]; exact hl.1.symm) hown (hts (.methodLink RX0 154 Lib.Math.abs.name) (by decide +kernel)) (hts (.static Lib.Math.abs.name) (by decide +kernel)) (hts (.initialized "java/lang/Math") (by decide +kernel)) (hts (.code Lib.Math.abs.name Lib.Math.abs.code 1 (some .int)) (by decide +kernel)) (Nat.le_of_ble_eq_true rfl) (Nat.le_of_ble_eq_true rfl) (Nat.le_of_ble_eq_true rfl) (Nat.le_of_ble_eq_true rfl) dX0_lineCells_3 ?_
  refine lv_as (y := nI (dist a c1)) (absd a ha c1 hc) ?_
  refine lv_iload_n hx hb dX0_lineCells_6 rfl (lv_at hl 3 rfl) ?_
  refine lv_iload_n hx hb dX0_lineCells_7 rfl (lv_at hl 1 rfl) ?_
  refine lv_isub hx hb dX0_lineCells_8 ?_
  refine va_mabs (index := 154) hx hb (by rw [hml]; exact hl.1.symm) hown (hts (.methodLink RX0 154 Lib.Math.abs.name) (by decide +kernel)) (hts (.static Lib.Math.abs.name) (by decide +kernel)) (hts (.initialized "java/lang/Math") (by decide +kernel)) (hts (.code Lib.Math.abs.name Lib.Math.abs.code 1 (some .int)) (by decide +kernel)) (Nat.le_of_ble_eq_true rfl) (Nat.le_of_ble_eq_true rfl) (Nat.le_of_ble_eq_true rfl) (Nat.le_of_ble_eq_true rfl) dX0_lineCells_9 ?_
  refine lv_as (y := nI (dist b d1)) (absd b hb5 d1 hd) ?_
  refine va_mmax (index := 161) hx hb (by rw [hml]; exact hl.1.symm) hown (hts (.methodLink RX0 161 Lib.Math.max.name) (by decide +kernel)) (hts (.static Lib.Math.max.name) (by decide +kernel)) (hts (.initialized "java/lang/Math") (by decide +kernel)) (hts (.code Lib.Math.max.name Lib.Math.max.code 2 (some .int)) (by decide +kernel)) (Nat.le_of_ble_eq_true rfl) (Nat.le_of_ble_eq_true rfl) (Nat.le_of_ble_eq_true rfl) (Nat.le_of_ble_eq_true rfl) dX0_lineCells_12 ?_
  refine lv_as (y := nI (max (dist a c1) (dist b d1))) (maxd _ hda _ hdb) ?_
  refine lv_istore (lv' := [(4, .int (nI (max (dist a c1) (dist b d1)))), (0, .int (nI a)), (1, .int (nI b)), (2, .int (nI c1)), (3, .int (nI d1))]) hx hb dX0_lineCells_15 hl (by decide) rfl (fun ls hl => ?_)
  refine lv_iload_n hx hb dX0_lineCells_17 rfl (lv_at hl 1 rfl) ?_
  refine lv_iload_n hx hb dX0_lineCells_18 rfl (lv_at hl 3 rfl) ?_
  refine k_callSi (As := [.int (nI a), .int (nI c1)]) (rest := []) ⟨hx, hb, hml, hown, hts⟩ (c_X0_direction l a c1 (by omega) (by omega)) (va_cwS 2 hts gX0_lineCells_X0_direction rfl rfl rfl (by decide +kernel) ⟨Nat.le_of_ble_eq_true rfl, Nat.le_of_ble_eq_true rfl⟩) k_bl_tt (fun _ _ _ => trivial) rfl hl.1 rfl (Nat.le_of_ble_eq_true rfl) dX0_lineCells_19 ⟨Nat.zero_le _, Nat.zero_le _⟩ ?_
  refine lv_istore (lv' := [(5, .int (dr a c1)), (4, .int (nI (max (dist a c1) (dist b d1)))), (0, .int (nI a)), (1, .int (nI b)), (2, .int (nI c1)), (3, .int (nI d1))]) hx hb dX0_lineCells_22 hl (by decide) rfl (fun ls hl => ?_)
  refine lv_iload_n hx hb dX0_lineCells_24 rfl (lv_at hl 3 rfl) ?_
  refine lv_iload_n hx hb dX0_lineCells_25 rfl (lv_at hl 5 rfl) ?_
  refine k_callSi (As := [.int (nI b), .int (nI d1)]) (rest := []) ⟨hx, hb, hml, hown, hts⟩ (c_X0_direction l b d1 (by omega) (by omega)) (va_cwS 2 hts gX0_lineCells_X0_direction rfl rfl rfl (by decide +kernel) ⟨Nat.le_of_ble_eq_true rfl, Nat.le_of_ble_eq_true rfl⟩) k_bl_tt (fun _ _ _ => trivial) rfl hl.1 rfl (Nat.le_of_ble_eq_true rfl) dX0_lineCells_26 ⟨Nat.zero_le _, Nat.zero_le _⟩ ?_
  refine lv_istore (lv' := [(6, .int (dr b d1)), (5, .int (dr a c1)), (4, .int (nI (max (dist a c1) (dist b d1)))), (0, .int (nI a)), (1, .int (nI b)), (2, .int (nI c1)), (3, .int (nI d1))]) hx hb dX0_lineCells_29 hl (by decide) rfl (fun ls hl => ?_)
  refine lv_iconst (v := nI 0) hx hb dX0_lineCells_31 (by decide) ?_
  refine lv_istore (lv' := [(7, .int (nI 0)), (6, .int (dr b d1)), (5, .int (dr a c1)), (4, .int (nI (max (dist a c1) (dist b d1)))), (0, .int (nI a)), (1, .int (nI b)), (2, .int (nI c1)), (3, .int (nI d1))]) hx hb dX0_lineCells_32 hl (by decide) rfl (fun ls hl => ?_)
  refine lv_iconst (v := nI 0) hx hb dX0_lineCells_34 (by decide) ?_
  refine lv_istore (lv' := [(8, .int (nI 0)), (7, .int (nI 0)), (6, .int (dr b d1)), (5, .int (dr a c1)), (4, .int (nI (max (dist a c1) (dist b d1)))), (0, .int (nI a)), (1, .int (nI b)), (2, .int (nI c1)), (3, .int (nI d1))]) hx hb dX0_lineCells_35 hl (by decide) rfl (fun ls hl => ?_)
  refine W.loop (fun i ls => lv_has ls 9 [(0, .int (nI a)), (1, .int (nI b)), (2, .int (nI c1)), (3, .int (nI d1)), (4, .int (nI (max (dist a c1) (dist b d1)))), (5, .int (dr a c1)), (6, .int (dr b d1)), (7, .int (lcF (nI a) (nI b) (dr a c1) (dr b d1) i)), (8, .int (nI i))]) (lnN a b c1 d1) (0) (by omega) (lv_sub hl [5, 6, 7, 8, 4, 3, 2, 1, 0] rfl) ?_
  intro i ls hi_37 hI_37 ih_37
  have hl := hI_37
  refine lv_iload hx hb dX0_lineCells_37 (lv_at hl 8 rfl) ?_
  refine lv_iload hx hb dX0_lineCells_39 (lv_at hl 4 rfl) ?_
  refine n_icmp_gt (tgt := 74) hx hb dX0_lineCells_41 (by decide) (by omega) (by omega) (fun c_41 => ?_) (fun c_41 => ?_)
  · refine lv_iload hx hb dX0_lineCells_74 (lv_at hl 7 rfl) ?_
    exact k_iret hx hb hr hlocks dX0_lineCells_76 (by rw [show i = lnN a b c1 d1 from by unfold lnN at hi_37 ⊢; omega])
  · refine lv_iload hx hb dX0_lineCells_44 (lv_at hl 7 rfl) ?_
    refine lv_iconst (v := nI 1) hx hb dX0_lineCells_46 (by decide) ?_
    refine lv_iload_n hx hb dX0_lineCells_47 rfl (lv_at hl 1 rfl) ?_
    refine lv_iload hx hb dX0_lineCells_48 (lv_at hl 8 rfl) ?_
    refine lv_iload hx hb dX0_lineCells_50 (lv_at hl 6 rfl) ?_
    refine lv_imul hx hb dX0_lineCells_52 ?_
    refine lv_iadd hx hb dX0_lineCells_53 ?_
    refine lv_iconst (v := nI 5) hx hb dX0_lineCells_54 (by decide) ?_
    refine lv_imul hx hb dX0_lineCells_55 ?_
    refine lv_iload_n hx hb dX0_lineCells_56 rfl (lv_at hl 0 rfl) ?_
    refine lv_iadd hx hb dX0_lineCells_57 ?_
    refine lv_iload hx hb dX0_lineCells_58 (lv_at hl 8 rfl) ?_
    refine lv_iload hx hb dX0_lineCells_60 (lv_at hl 5 rfl) ?_
    refine lv_imul hx hb dX0_lineCells_62 ?_
    refine lv_iadd hx hb dX0_lineCells_63 ?_
    refine lv_ishl hx hb dX0_lineCells_64 ?_
    refine lv_ior hx hb dX0_lineCells_65 ?_
    refine lv_as (y := lcF (nI a) (nI b) (dr a c1) (dr b d1) (i + 1)) (rfl) ?_
    refine lv_istore (lv' := [(7, .int (lcF (nI a) (nI b) (dr a c1) (dr b d1) (i + 1))), (0, .int (nI a)), (1, .int (nI b)), (2, .int (nI c1)), (3, .int (nI d1)), (4, .int (nI (max (dist a c1) (dist b d1)))), (5, .int (dr a c1)), (6, .int (dr b d1)), (8, .int (nI i))]) hx hb dX0_lineCells_66 hl (by decide) rfl (fun ls hl => ?_)
    refine lv_iinc (v := nI (i + 1)) (lv' := [(8, .int (nI (i + 1))), (7, .int (lcF (nI a) (nI b) (dr a c1) (dr b d1) (i + 1))), (0, .int (nI a)), (1, .int (nI b)), (2, .int (nI c1)), (3, .int (nI d1)), (4, .int (nI (max (dist a c1) (dist b d1)))), (5, .int (dr a c1)), (6, .int (dr b d1))]) hx hb dX0_lineCells_68 hl (k := 8) rfl (nI_inc _) (by decide) rfl (fun ls hl => ?_)
    refine lv_goto (tgt := 37) hx hb dX0_lineCells_71 (by decide) ?_
    exact ih_37 _ (by unfold lnN; omega) (lv_sub hl [2, 3, 4, 5, 6, 7, 8, 1, 0] rfl)
set_option maxHeartbeats 4000000 in
set_option maxRecDepth 100000 in
theorem c_X0_hasColumn (l : Launch) (s0 : Int32) (x : Nat) (hx5 : x < 5) : k_M l yX0_hasColumn wsX0_hasColumn ({ frames := 2, cells := 0, slots := 0, locals := 51 } : Room) [.int s0, .int (nI x)] k_tt (some (.int (bI (hcC s0 x)))) := by
  refine k_head (cc := cX0_hasColumn) (maxL := 2) (ret := some .boolean) [(0, .int s0), (1, .int (nI x))] (by decide) rfl (Nat.le_of_ble_eq_true rfl) rfl ?_
  intro p e s m below meth c ls hx hb hr hml hown hts hlocks hname hB hl
  have hown : s.vm.findClass RX0 = some m.cls := hown
  refine lv_iload_n hx hb dX0_hasColumn_0 rfl (lv_at hl 0 rfl) ?_
  refine lv_iload_n hx hb dX0_hasColumn_1 rfl (lv_at hl 1 rfl) ?_
  refine lv_iconst (v := nI 0) hx hb dX0_hasColumn_2 (by decide) ?_
  refine lv_iload_n hx hb dX0_hasColumn_3 rfl (lv_at hl 1 rfl) ?_
  refine lv_iconst (v := nI 4) hx hb dX0_hasColumn_4 (by decide) ?_
  refine k_callSi (As := [.int (nI x), .int (nI 0), .int (nI x), .int (nI 4)]) (rest := [.int s0]) ⟨hx, hb, hml, hown, hts⟩ (c_X0_lineCells l x 0 x 4 (by omega) (by omega) (by omega) (by omega)) (va_cwS 4 hts gX0_hasColumn_X0_lineCells rfl rfl rfl (by decide +kernel) ⟨Nat.le_of_ble_eq_true rfl, Nat.le_of_ble_eq_true rfl⟩) k_bl_tt (fun _ _ _ => trivial) rfl hl.1 rfl (Nat.le_of_ble_eq_true rfl) dX0_hasColumn_5 ⟨Nat.zero_le _, Nat.zero_le _⟩ ?_
  refine lv_iand hx hb dX0_hasColumn_8 ?_
  refine lv_as (y := s0 &&& colm x) (rfl) ?_
  refine lv_if_eq (tgt := 16) hx hb dX0_hasColumn_9 (by decide) (fun c_9 => ?_) (fun c_9 => ?_)
  · refine lv_iconst (v := nI 0) hx hb dX0_hasColumn_16 (by decide) ?_
    exact k_zret hx hb hr hlocks dX0_hasColumn_17 (by simp [hcC, c_9]; rfl)
  · refine lv_iconst (v := nI 1) hx hb dX0_hasColumn_12 (by decide) ?_
    refine lv_goto (tgt := 17) hx hb dX0_hasColumn_13 (by decide) ?_
    exact k_zret hx hb hr hlocks dX0_hasColumn_17 (by simp [hcC, c_9]; rfl)
set_option maxHeartbeats 4000000 in
set_option maxRecDepth 100000 in
theorem c_X0_shapeWidth (l : Launch) (s0 : Int32) : k_M l yX0_shapeWidth wsX0_shapeWidth ({ frames := 3, cells := 0, slots := 0, locals := 72 } : Room) [.int s0] k_tt (some (.int (wdF (hcC s0)))) := by
  refine k_head (cc := cX0_shapeWidth) (maxL := 4) (ret := some .int) [(0, .int s0)] (by decide) rfl (Nat.le_of_ble_eq_true rfl) rfl ?_
  intro p e s m below meth c ls hx hb hr hml hown hts hlocks hname hB hl
  have hown : s.vm.findClass RX0 = some m.cls := hown
  refine lv_iconst (v := (-1)) hx hb dX0_shapeWidth_0 (by decide) ?_
  refine lv_istore_n (lv' := [(1, .int (-1)), (0, .int s0)]) hx hb dX0_shapeWidth_1 rfl hl (by decide) rfl (fun ls hl => ?_)
  refine lv_iconst (v := (-1)) hx hb dX0_shapeWidth_2 (by decide) ?_
  refine lv_istore_n (lv' := [(2, .int (-1)), (1, .int (-1)), (0, .int s0)]) hx hb dX0_shapeWidth_3 rfl hl (by decide) rfl (fun ls hl => ?_)
  refine lv_iconst (v := nI 0) hx hb dX0_shapeWidth_4 (by decide) ?_
  refine lv_istore_n (lv' := [(3, .int (nI 0)), (2, .int (-1)), (1, .int (-1)), (0, .int s0)]) hx hb dX0_shapeWidth_5 rfl hl (by decide) rfl (fun ls hl => ?_)
  refine W.loop (fun i ls => ∃ (f1 : Int32) (l1 : Int32), (f1 = (wfF (hcC s0) i).1) ∧ (l1 = (wfF (hcC s0) i).2) ∧ lv_has ls 4 [(0, .int s0), (1, .int f1), (2, .int l1), (3, .int (nI i))]) (5) (0) (by omega) ⟨(-1), (-1), rfl, rfl, lv_sub hl [3, 2, 1, 0] rfl⟩ ?_
  intro i ls hi_6 hI_6 ih_6
  obtain ⟨f1, l1, hf0_6, hf1_6, hl⟩ := hI_6
  refine lv_iload_n hx hb dX0_shapeWidth_6 rfl (lv_at hl 3 rfl) ?_
  refine lv_iconst (v := nI 5) hx hb dX0_shapeWidth_7 (by decide) ?_
  refine n_icmp_ge (tgt := 38) hx hb dX0_shapeWidth_8 (by decide) (by omega) (by omega) (fun c_8 => ?_) (fun c_8 => ?_)
  · refine lv_iload_n hx hb dX0_shapeWidth_38 rfl (lv_at hl 1 rfl) ?_
    refine lv_iconst (v := (-1)) hx hb dX0_shapeWidth_39 (by decide) ?_
    refine lv_icmp_ne (tgt := 47) hx hb dX0_shapeWidth_40 (by decide) (fun c_40 => ?_) (fun c_40 => ?_)
    · refine lv_iload_n hx hb dX0_shapeWidth_47 rfl (lv_at hl 2 rfl) ?_
      refine lv_iload_n hx hb dX0_shapeWidth_48 rfl (lv_at hl 1 rfl) ?_
      refine lv_isub hx hb dX0_shapeWidth_49 ?_
      refine lv_iconst (v := nI 1) hx hb dX0_shapeWidth_50 (by decide) ?_
      refine lv_iadd hx hb dX0_shapeWidth_51 ?_
      have h5 : i = 5 := by omega
      subst h5
      exact k_iret hx hb hr hlocks dX0_shapeWidth_52 (by simp [wdF, ← hf0_6, ← hf1_6, c_40])
    · refine lv_iconst (v := nI 2) hx hb dX0_shapeWidth_43 (by decide) ?_
      refine lv_goto (tgt := 52) hx hb dX0_shapeWidth_44 (by decide) ?_
      have h5 : i = 5 := by omega
      subst h5
      exact k_iret hx hb hr hlocks dX0_shapeWidth_52 (by simp [wdF, ← hf0_6, ← hf1_6, c_40])
  · refine lv_iload_n hx hb dX0_shapeWidth_11 rfl (lv_at hl 0 rfl) ?_
    refine lv_iload_n hx hb dX0_shapeWidth_12 rfl (lv_at hl 3 rfl) ?_
    refine k_callSi (As := [.int s0, .int (nI i)]) (rest := []) ⟨hx, hb, hml, hown, hts⟩ (c_X0_hasColumn l s0 i (by omega)) (va_cwS 2 hts gX0_shapeWidth_X0_hasColumn rfl rfl rfl (by decide +kernel) ⟨Nat.le_of_ble_eq_true rfl, Nat.le_of_ble_eq_true rfl⟩) k_bl_tt (fun _ _ _ => trivial) rfl hl.1 rfl (Nat.le_of_ble_eq_true rfl) dX0_shapeWidth_13 ⟨Nat.zero_le _, Nat.zero_le _⟩ ?_
    refine b_if_eq (tgt := 32) hx hb dX0_shapeWidth_16 (by decide) (fun c_16 => ?_) (fun c_16 => ?_)
    · refine lv_iinc (v := nI (i + 1)) (lv' := [(3, .int (nI (i + 1))), (0, .int s0), (1, .int f1), (2, .int l1)]) hx hb dX0_shapeWidth_32 hl (k := 3) rfl (nI_inc _) (by decide) rfl (fun ls hl => ?_)
      refine lv_goto (tgt := 6) hx hb dX0_shapeWidth_35 (by decide) ?_
      exact ih_6 _ (by omega) ⟨f1, l1, by rw [wfF_f c_16]; exact hf0_6, by rw [wfF_f c_16]; exact hf1_6, lv_sub hl [1, 2, 3, 0] rfl⟩
    · refine lv_iload_n hx hb dX0_shapeWidth_19 rfl (lv_at hl 1 rfl) ?_
      refine lv_iconst (v := (-1)) hx hb dX0_shapeWidth_20 (by decide) ?_
      refine lv_icmp_ne (tgt := 28) hx hb dX0_shapeWidth_21 (by decide) (fun c_21 => ?_) (fun c_21 => ?_)
      · refine lv_iload_n hx hb dX0_shapeWidth_28 rfl (lv_at hl 1 rfl) ?_
        refine lv_istore_n (lv' := [(1, .int f1), (0, .int s0), (2, .int l1), (3, .int (nI i))]) hx hb dX0_shapeWidth_29 rfl hl (by decide) rfl (fun ls hl => ?_)
        refine lv_iload_n hx hb dX0_shapeWidth_30 rfl (lv_at hl 3 rfl) ?_
        refine lv_istore_n (lv' := [(2, .int (nI i)), (1, .int f1), (0, .int s0), (3, .int (nI i))]) hx hb dX0_shapeWidth_31 rfl hl (by decide) rfl (fun ls hl => ?_)
        refine lv_iinc (v := nI (i + 1)) (lv' := [(3, .int (nI (i + 1))), (2, .int (nI i)), (1, .int f1), (0, .int s0)]) hx hb dX0_shapeWidth_32 hl (k := 3) rfl (nI_inc _) (by decide) rfl (fun ls hl => ?_)
        refine lv_goto (tgt := 6) hx hb dX0_shapeWidth_35 (by decide) ?_
        exact ih_6 _ (by omega) ⟨f1, nI i, by rw [wfF_t c_16, ← hf0_6]; exact (if_neg c_21).symm, by rw [wfF_t c_16], lv_sub hl [3, 2, 1, 0] rfl⟩
      · refine lv_iload_n hx hb dX0_shapeWidth_24 rfl (lv_at hl 3 rfl) ?_
        refine lv_goto (tgt := 29) hx hb dX0_shapeWidth_25 (by decide) ?_
        refine lv_istore_n (lv' := [(1, .int (nI i)), (0, .int s0), (2, .int l1), (3, .int (nI i))]) hx hb dX0_shapeWidth_29 rfl hl (by decide) rfl (fun ls hl => ?_)
        refine lv_iload_n hx hb dX0_shapeWidth_30 rfl (lv_at hl 3 rfl) ?_
        refine lv_istore_n (lv' := [(2, .int (nI i)), (1, .int (nI i)), (0, .int s0), (3, .int (nI i))]) hx hb dX0_shapeWidth_31 rfl hl (by decide) rfl (fun ls hl => ?_)
        refine lv_iinc (v := nI (i + 1)) (lv' := [(3, .int (nI (i + 1))), (2, .int (nI i)), (1, .int (nI i)), (0, .int s0)]) hx hb dX0_shapeWidth_32 hl (k := 3) rfl (nI_inc _) (by decide) rfl (fun ls hl => ?_)
        refine lv_goto (tgt := 6) hx hb dX0_shapeWidth_35 (by decide) ?_
        exact ih_6 _ (by omega) ⟨nI i, nI i, by rw [wfF_t c_16, ← hf0_6]; exact (if_pos c_21).symm, by rw [wfF_t c_16], lv_sub hl [3, 2, 1, 0] rfl⟩
set_option maxHeartbeats 4000000 in
set_option maxRecDepth 100000 in
theorem c_X1_in (l : Launch) (v lo hi : Int32) : k_M l yX1_in wsX1_in ({ frames := 0, cells := 0, slots := 0, locals := 0 } : Room) [.int v, .int lo, .int hi] k_tt (some (.int (bI (rgB v lo hi)))) := by
  refine k_head (cc := cX1_in) (maxL := 3) (ret := some .boolean) [(0, .int v), (1, .int lo), (2, .int hi)] (by decide) rfl (Nat.le_of_ble_eq_true rfl) rfl ?_
  intro p e s m below meth c ls hx hb hr hml hown hts hlocks hname hB hl
  have hown : s.vm.findClass RX1 = some m.cls := hown
  refine lv_iload_n hx hb dX1_in_0 rfl (lv_at hl 0 rfl) ?_
  refine lv_iload_n hx hb dX1_in_1 rfl (lv_at hl 1 rfl) ?_
  refine lv_icmp_lt (tgt := 14) hx hb dX1_in_2 (by decide) (fun c_2 => ?_) (fun c_2 => ?_)
  · refine lv_iconst (v := nI 0) hx hb dX1_in_14 (by decide) ?_
    exact k_zret hx hb hr hlocks dX1_in_15 (by first | exact rg_f1 c_2 | exact rg_f2 c_7)
  · refine lv_iload_n hx hb dX1_in_5 rfl (lv_at hl 0 rfl) ?_
    refine lv_iload_n hx hb dX1_in_6 rfl (lv_at hl 2 rfl) ?_
    refine lv_icmp_gt (tgt := 14) hx hb dX1_in_7 (by decide) (fun c_7 => ?_) (fun c_7 => ?_)
    · refine lv_iconst (v := nI 0) hx hb dX1_in_14 (by decide) ?_
      exact k_zret hx hb hr hlocks dX1_in_15 (by first | exact rg_f1 c_2 | exact rg_f2 c_7)
    · refine lv_iconst (v := nI 1) hx hb dX1_in_10 (by decide) ?_
      refine lv_goto (tgt := 15) hx hb dX1_in_11 (by decide) ?_
      exact k_zret hx hb hr hlocks dX1_in_15 (rg_t c_2 c_7)
set_option maxHeartbeats 4000000 in
set_option maxRecDepth 100000 in
theorem c_X1_isGlyph (l : Launch) (g : Int32) : k_M l yX1_isGlyph wsX1_isGlyph ({ frames := 1, cells := 0, slots := 0, locals := 22 } : Room) [.int g] k_tt (some (.int (bI (inB g 8)))) := by
  refine k_head (cc := cX1_isGlyph) (maxL := 1) (ret := some .boolean) [(0, .int g)] (by decide) rfl (Nat.le_of_ble_eq_true rfl) rfl ?_
  intro p e s m below meth c ls hx hb hr hml hown hts hlocks hname hB hl
  have hown : s.vm.findClass RX1 = some m.cls := hown
  refine lv_iload_n hx hb dX1_isGlyph_0 rfl (lv_at hl 0 rfl) ?_
  refine lv_iconst (v := nI 0) hx hb dX1_isGlyph_1 (by decide) ?_
  refine lv_bipush (v := nI 7) hx hb dX1_isGlyph_2 (by decide) ?_
  refine k_callSi (As := [.int g, .int (nI 0), .int (nI 7)]) (rest := []) ⟨hx, hb, hml, hown, hts⟩ (c_X1_in l g (nI 0) (nI 7)) (va_cwS 3 hts gX1_isGlyph_X1_in rfl rfl rfl (by decide +kernel) ⟨Nat.le_of_ble_eq_true rfl, Nat.le_of_ble_eq_true rfl⟩) k_bl_tt (fun _ _ _ => trivial) rfl hl.1 rfl (Nat.le_of_ble_eq_true rfl) dX1_isGlyph_4 ⟨Nat.zero_le _, Nat.zero_le _⟩ ?_
  exact k_zret hx hb hr hlocks dX1_isGlyph_7 (bI_c (rg_in g (by decide)))
set_option maxHeartbeats 4000000 in
set_option maxRecDepth 100000 in
theorem c_X1_isPlace (l : Launch) (g : Int32) : k_M l yX1_isPlace wsX1_isPlace ({ frames := 1, cells := 0, slots := 0, locals := 22 } : Room) [.int g] k_tt (some (.int (bI (inB g 8)))) := by
  refine k_head (cc := cX1_isPlace) (maxL := 1) (ret := some .boolean) [(0, .int g)] (by decide) rfl (Nat.le_of_ble_eq_true rfl) rfl ?_
  intro p e s m below meth c ls hx hb hr hml hown hts hlocks hname hB hl
  have hown : s.vm.findClass RX1 = some m.cls := hown
  refine lv_iload_n hx hb dX1_isPlace_0 rfl (lv_at hl 0 rfl) ?_
  refine lv_iconst (v := nI 0) hx hb dX1_isPlace_1 (by decide) ?_
  refine lv_bipush (v := nI 7) hx hb dX1_isPlace_2 (by decide) ?_
  refine k_callSi (As := [.int g, .int (nI 0), .int (nI 7)]) (rest := []) ⟨hx, hb, hml, hown, hts⟩ (c_X1_in l g (nI 0) (nI 7)) (va_cwS 3 hts gX1_isPlace_X1_in rfl rfl rfl (by decide +kernel) ⟨Nat.le_of_ble_eq_true rfl, Nat.le_of_ble_eq_true rfl⟩) k_bl_tt (fun _ _ _ => trivial) rfl hl.1 rfl (Nat.le_of_ble_eq_true rfl) dX1_isPlace_4 ⟨Nat.zero_le _, Nat.zero_le _⟩ ?_
  exact k_zret hx hb hr hlocks dX1_isPlace_7 (bI_c (rg_in g (by decide)))
set_option maxHeartbeats 4000000 in
set_option maxRecDepth 100000 in
theorem c_X1_isExit (l : Launch) (g h : Int32) : k_M l yX1_isExit wsX1_isExit ({ frames := 2, cells := 0, slots := 0, locals := 42 } : Room) [.int g, .int h] k_tt (some (.int (bI (inB g 8 && inB h 4)))) := by
  refine k_head (cc := cX1_isExit) (maxL := 2) (ret := some .boolean) [(0, .int g), (1, .int h)] (by decide) rfl (Nat.le_of_ble_eq_true rfl) rfl ?_
  intro p e s m below meth c ls hx hb hr hml hown hts hlocks hname hB hl
  have hown : s.vm.findClass RX1 = some m.cls := hown
  refine lv_iload_n hx hb dX1_isExit_0 rfl (lv_at hl 0 rfl) ?_
  refine k_callSi (As := [.int g]) (rest := []) ⟨hx, hb, hml, hown, hts⟩ (c_X1_isPlace l g) (va_cwS 1 hts gX1_isExit_X1_isPlace rfl rfl rfl (by decide +kernel) ⟨Nat.le_of_ble_eq_true rfl, Nat.le_of_ble_eq_true rfl⟩) k_bl_tt (fun _ _ _ => trivial) rfl hl.1 rfl (Nat.le_of_ble_eq_true rfl) dX1_isExit_1 ⟨Nat.zero_le _, Nat.zero_le _⟩ ?_
  refine b_if_eq (tgt := 20) hx hb dX1_isExit_4 (by decide) (fun c_4 => ?_) (fun c_4 => ?_)
  · refine lv_iconst (v := nI 0) hx hb dX1_isExit_20 (by decide) ?_
    exact k_zret hx hb hr hlocks dX1_isExit_21 (by first | (rw [c_4]; rfl) | (rw [rg_in h (by decide)] at c_13; rw [c_4, c_13]; rfl))
  · refine lv_iload_n hx hb dX1_isExit_7 rfl (lv_at hl 1 rfl) ?_
    refine lv_iconst (v := nI 0) hx hb dX1_isExit_8 (by decide) ?_
    refine lv_iconst (v := nI 3) hx hb dX1_isExit_9 (by decide) ?_
    refine k_callSi (As := [.int h, .int (nI 0), .int (nI 3)]) (rest := []) ⟨hx, hb, hml, hown, hts⟩ (c_X1_in l h (nI 0) (nI 3)) (va_cwS 3 hts gX1_isExit_X1_in rfl rfl rfl (by decide +kernel) ⟨Nat.le_of_ble_eq_true rfl, Nat.le_of_ble_eq_true rfl⟩) k_bl_tt (fun _ _ _ => trivial) rfl hl.1 rfl (Nat.le_of_ble_eq_true rfl) dX1_isExit_10 ⟨Nat.zero_le _, Nat.zero_le _⟩ ?_
    refine b_if_eq (tgt := 20) hx hb dX1_isExit_13 (by decide) (fun c_13 => ?_) (fun c_13 => ?_)
    · refine lv_iconst (v := nI 0) hx hb dX1_isExit_20 (by decide) ?_
      exact k_zret hx hb hr hlocks dX1_isExit_21 (by first | (rw [c_4]; rfl) | (rw [rg_in h (by decide)] at c_13; rw [c_4, c_13]; rfl))
    · refine lv_iconst (v := nI 1) hx hb dX1_isExit_16 (by decide) ?_
      refine lv_goto (tgt := 21) hx hb dX1_isExit_17 (by decide) ?_
      exact k_zret hx hb hr hlocks dX1_isExit_21 (by rw [rg_in h (by decide)] at c_13; rw [c_4, c_13]; rfl)
set_option maxHeartbeats 4000000 in
set_option maxRecDepth 100000 in
theorem c_X1_power (l : Launch) (k : Nat) (hk : k ≤ 5) : k_M l yX1_power wsX1_power ({ frames := 0, cells := 0, slots := 0, locals := 0 } : Room) [.int (nI k)] k_tt (some (.int (nI (8 ^ k)))) := by
  refine k_head (cc := cX1_power) (maxL := 3) (ret := some .int) [(0, .int (nI k))] (by decide) rfl (Nat.le_of_ble_eq_true rfl) rfl ?_
  intro p e s m below meth c ls hx hb hr hml hown hts hlocks hname hB hl
  have hown : s.vm.findClass RX1 = some m.cls := hown
  refine lv_iconst (v := nI 1) hx hb dX1_power_0 (by decide) ?_
  refine lv_istore_n (lv' := [(1, .int (nI 1)), (0, .int (nI k))]) hx hb dX1_power_1 rfl hl (by decide) rfl (fun ls hl => ?_)
  refine lv_iconst (v := nI 0) hx hb dX1_power_2 (by decide) ?_
  refine lv_istore_n (lv' := [(2, .int (nI 0)), (1, .int (nI 1)), (0, .int (nI k))]) hx hb dX1_power_3 rfl hl (by decide) rfl (fun ls hl => ?_)
  refine W.loop (fun i ls => lv_has ls 3 [(0, .int (nI k)), (1, .int (nI (8 ^ i))), (2, .int (nI i))]) (k) (0) (by omega) (lv_sub hl [2, 1, 0] rfl) ?_
  intro i ls hi_4 hI_4 ih_4
  have hl := hI_4
  refine lv_iload_n hx hb dX1_power_4 rfl (lv_at hl 2 rfl) ?_
  refine lv_iload_n hx hb dX1_power_5 rfl (lv_at hl 0 rfl) ?_
  refine n_icmp_ge (tgt := 20) hx hb dX1_power_6 (by decide) (by omega) (by omega) (fun c_6 => ?_) (fun c_6 => ?_)
  · refine lv_iload_n hx hb dX1_power_20 rfl (lv_at hl 1 rfl) ?_
    exact k_iret hx hb hr hlocks dX1_power_21 (by rw [show i = k from by omega])
  · refine lv_iload_n hx hb dX1_power_9 rfl (lv_at hl 1 rfl) ?_
    refine lv_bipush (v := nI 8) hx hb dX1_power_10 (by decide) ?_
    refine lv_imul hx hb dX1_power_12 ?_
    refine lv_as (y := nI (8 ^ (i + 1))) (pk_mul _ _) ?_
    refine lv_istore_n (lv' := [(1, .int (nI (8 ^ (i + 1)))), (0, .int (nI k)), (2, .int (nI i))]) hx hb dX1_power_13 rfl hl (by decide) rfl (fun ls hl => ?_)
    refine lv_iinc (v := nI (i + 1)) (lv' := [(2, .int (nI (i + 1))), (1, .int (nI (8 ^ (i + 1)))), (0, .int (nI k))]) hx hb dX1_power_14 hl (k := 2) rfl (nI_inc _) (by decide) rfl (fun ls hl => ?_)
    refine lv_goto (tgt := 4) hx hb dX1_power_17 (by decide) ?_
    exact ih_4 _ (by omega) (lv_sub hl [2, 1, 0] rfl)
set_option maxHeartbeats 4000000 in
set_option maxRecDepth 100000 in
theorem c_X1_isText (l : Launch) (t m0 : Int32) : k_M l yX1_isText wsX1_isText ({ frames := 1, cells := 0, slots := 0, locals := 22 } : Room) [.int t, .int m0] k_tt (some (.int (bI (txB t m0)))) := by
  refine k_head (cc := cX1_isText) (maxL := 2) (ret := some .boolean) [(0, .int t), (1, .int m0)] (by decide) rfl (Nat.le_of_ble_eq_true rfl) rfl ?_
  intro p e s m below meth c ls hx hb hr hml hown hts hlocks hname hB hl
  have hown : s.vm.findClass RX1 = some m.cls := hown
  refine lv_iload_n hx hb dX1_isText_0 rfl (lv_at hl 1 rfl) ?_
  refine lv_iconst (v := nI 1) hx hb dX1_isText_1 (by decide) ?_
  refine lv_iconst (v := nI 5) hx hb dX1_isText_2 (by decide) ?_
  refine k_callSi (As := [.int m0, .int (nI 1), .int (nI 5)]) (rest := []) ⟨hx, hb, hml, hown, hts⟩ (c_X1_in l m0 (nI 1) (nI 5)) (va_cwS 3 hts gX1_isText_X1_in rfl rfl rfl (by decide +kernel) ⟨Nat.le_of_ble_eq_true rfl, Nat.le_of_ble_eq_true rfl⟩) k_bl_tt (fun _ _ _ => trivial) rfl hl.1 rfl (Nat.le_of_ble_eq_true rfl) dX1_isText_3 ⟨Nat.zero_le _, Nat.zero_le _⟩ ?_
  refine b_if_eq (tgt := 27) hx hb dX1_isText_6 (by decide) (fun c_6 => ?_) (fun c_6 => ?_)
  · refine lv_iconst (v := nI 0) hx hb dX1_isText_27 (by decide) ?_
    exact k_zret hx hb hr hlocks dX1_isText_28 (by first | (rw [tx_rg t hk1 hk5] at c_20; rw [c_20]; rfl) | (rw [txB_no c_6]; rfl))
  · obtain ⟨k, hk1, hk5, rfl⟩ := rg_1 m0 c_6
    refine lv_iload_n hx hb dX1_isText_9 rfl (lv_at hl 0 rfl) ?_
    refine lv_iconst (v := nI 0) hx hb dX1_isText_10 (by decide) ?_
    refine lv_iload_n hx hb dX1_isText_11 rfl (lv_at hl 1 rfl) ?_
    refine k_callSi (As := [.int (nI k)]) (rest := [.int (nI 0), .int t]) ⟨hx, hb, hml, hown, hts⟩ (c_X1_power l k (by omega)) (va_cwS 1 hts gX1_isText_X1_power rfl rfl rfl (by decide +kernel) ⟨Nat.le_of_ble_eq_true rfl, Nat.le_of_ble_eq_true rfl⟩) k_bl_tt (fun _ _ _ => trivial) rfl hl.1 rfl (Nat.le_of_ble_eq_true rfl) dX1_isText_12 ⟨Nat.zero_le _, Nat.zero_le _⟩ ?_
    refine lv_iconst (v := nI 1) hx hb dX1_isText_15 (by decide) ?_
    refine lv_isub hx hb dX1_isText_16 ?_
    refine lv_as (y := nI (8 ^ k - 1)) (pk_sub (p8_pos k)) ?_
    refine k_callSi (As := [.int t, .int (nI 0), .int (nI (8 ^ k - 1))]) (rest := []) ⟨hx, hb, hml, hown, hts⟩ (c_X1_in l t (nI 0) (nI (8 ^ k - 1))) (va_cwS 3 hts gX1_isText_X1_in rfl rfl rfl (by decide +kernel) ⟨Nat.le_of_ble_eq_true rfl, Nat.le_of_ble_eq_true rfl⟩) k_bl_tt (fun _ _ _ => trivial) rfl hl.1 rfl (Nat.le_of_ble_eq_true rfl) dX1_isText_17 ⟨Nat.zero_le _, Nat.zero_le _⟩ ?_
    refine b_if_eq (tgt := 27) hx hb dX1_isText_20 (by decide) (fun c_20 => ?_) (fun c_20 => ?_)
    · refine lv_iconst (v := nI 0) hx hb dX1_isText_27 (by decide) ?_
      exact k_zret hx hb hr hlocks dX1_isText_28 (by first | (rw [tx_rg t hk1 hk5] at c_20; rw [c_20]; rfl) | (rw [txB_no c_6]; rfl))
    · refine lv_iconst (v := nI 1) hx hb dX1_isText_23 (by decide) ?_
      refine lv_goto (tgt := 28) hx hb dX1_isText_24 (by decide) ?_
      exact k_zret hx hb hr hlocks dX1_isText_28 (by rw [tx_rg t hk1 hk5] at c_20; rw [c_20]; rfl)
set_option maxHeartbeats 4000000 in
set_option maxRecDepth 100000 in
theorem c_X1_glyph (l : Launch) (t k j : Nat) (ht : t < 2 ^ 31) (hk : k ≤ 5) (hj : j < k) : k_M l yX1_glyph wsX1_glyph ({ frames := 1, cells := 0, slots := 0, locals := 22 } : Room) [.int (nI t), .int (nI k), .int (nI j)] k_tt (some (.int (nI (dg t (k - 1 - j))))) := by
  refine k_head (cc := cX1_glyph) (maxL := 3) (ret := some .int) [(0, .int (nI t)), (1, .int (nI k)), (2, .int (nI j))] (by decide) rfl (Nat.le_of_ble_eq_true rfl) rfl ?_
  intro p e s m below meth c ls hx hb hr hml hown hts hlocks hname hB hl
  have hown : s.vm.findClass RX1 = some m.cls := hown
  have hp := p8_le (k := k - 1 - j) (by omega)
  refine lv_iload_n hx hb dX1_glyph_0 rfl (lv_at hl 0 rfl) ?_
  refine lv_iload_n hx hb dX1_glyph_1 rfl (lv_at hl 1 rfl) ?_
  refine lv_iconst (v := nI 1) hx hb dX1_glyph_2 (by decide) ?_
  refine lv_isub hx hb dX1_glyph_3 ?_
  refine lv_as (y := nI (k - 1)) (pk_sub (by omega)) ?_
  refine lv_iload_n hx hb dX1_glyph_4 rfl (lv_at hl 2 rfl) ?_
  refine lv_isub hx hb dX1_glyph_5 ?_
  refine lv_as (y := nI ((k - 1) - j)) (pk_sub (by omega)) ?_
  refine k_callSi (As := [.int (nI ((k - 1) - j))]) (rest := [.int (nI t)]) ⟨hx, hb, hml, hown, hts⟩ (c_X1_power l ((k - 1) - j) (by omega)) (va_cwS 1 hts gX1_glyph_X1_power rfl rfl rfl (by decide +kernel) ⟨Nat.le_of_ble_eq_true rfl, Nat.le_of_ble_eq_true rfl⟩) k_bl_tt (fun _ _ _ => trivial) rfl hl.1 rfl (Nat.le_of_ble_eq_true rfl) dX1_glyph_6 ⟨Nat.zero_le _, Nat.zero_le _⟩ ?_
  refine lv_idiv hx hb dX1_glyph_9 (nI_ne0 (p8_pos _) (by omega)) ?_
  refine lv_as (y := nI (t / (8 ^ ((k - 1) - j)))) (pk_div ht (p8_pos _) (by omega)) ?_
  refine lv_bipush (v := nI 8) hx hb dX1_glyph_10 (by decide) ?_
  refine lv_irem hx hb dX1_glyph_12 (nI_ne0 (by omega) (by omega)) ?_
  refine lv_as (y := nI ((t / (8 ^ ((k - 1) - j))) % 8)) (pk_rem (Nat.lt_of_le_of_lt (Nat.div_le_self _ _) ht) (by decide) (by decide)) ?_
  exact k_iret hx hb hr hlocks dX1_glyph_13 (rfl)
set_option maxHeartbeats 4000000 in
set_option maxRecDepth 100000 in
theorem c_X1_bits (l : Launch) (x : Int32) : k_M l yX1_bits wsX1_bits ({ frames := 0, cells := 0, slots := 0, locals := 0 } : Room) [.int x] k_tt (some (.int (bsum x 25))) := by
  refine k_head (cc := cX1_bits) (maxL := 3) (ret := some .int) [(0, .int x)] (by decide) rfl (Nat.le_of_ble_eq_true rfl) rfl ?_
  intro p e s m below meth c ls hx hb hr hml hown hts hlocks hname hB hl
  have hown : s.vm.findClass RX1 = some m.cls := hown
  refine lv_iconst (v := nI 0) hx hb dX1_bits_0 (by decide) ?_
  refine lv_istore_n (lv' := [(1, .int (nI 0)), (0, .int x)]) hx hb dX1_bits_1 rfl hl (by decide) rfl (fun ls hl => ?_)
  refine lv_iconst (v := nI 0) hx hb dX1_bits_2 (by decide) ?_
  refine lv_istore_n (lv' := [(2, .int (nI 0)), (1, .int (nI 0)), (0, .int x)]) hx hb dX1_bits_3 rfl hl (by decide) rfl (fun ls hl => ?_)
  refine W.loop (fun i ls => lv_has ls 3 [(0, .int x), (1, .int (bsum x i)), (2, .int (nI i))]) (25) (0) (by omega) (lv_sub hl [2, 1, 0] rfl) ?_
  intro i ls hi_4 hI_4 ih_4
  have hl := hI_4
  refine lv_iload_n hx hb dX1_bits_4 rfl (lv_at hl 2 rfl) ?_
  refine lv_bipush (v := nI 25) hx hb dX1_bits_5 (by decide) ?_
  refine n_icmp_ge (tgt := 24) hx hb dX1_bits_7 (by decide) (by omega) (by omega) (fun c_7 => ?_) (fun c_7 => ?_)
  · refine lv_iload_n hx hb dX1_bits_24 rfl (lv_at hl 1 rfl) ?_
    exact k_iret hx hb hr hlocks dX1_bits_25 (by rw [show i = 25 from by omega])
  · refine lv_iload_n hx hb dX1_bits_10 rfl (lv_at hl 1 rfl) ?_
    refine lv_iload_n hx hb dX1_bits_11 rfl (lv_at hl 0 rfl) ?_
    refine lv_iload_n hx hb dX1_bits_12 rfl (lv_at hl 2 rfl) ?_
    refine lv_ishr hx hb dX1_bits_13 ?_
    refine lv_iconst (v := nI 1) hx hb dX1_bits_14 (by decide) ?_
    refine lv_iand hx hb dX1_bits_15 ?_
    refine lv_iadd hx hb dX1_bits_16 ?_
    refine lv_as (y := bsum x (i + 1)) (rfl) ?_
    refine lv_istore_n (lv' := [(1, .int (bsum x (i + 1))), (0, .int x), (2, .int (nI i))]) hx hb dX1_bits_17 rfl hl (by decide) rfl (fun ls hl => ?_)
    refine lv_iinc (v := nI (i + 1)) (lv' := [(2, .int (nI (i + 1))), (1, .int (bsum x (i + 1))), (0, .int x)]) hx hb dX1_bits_18 hl (k := 2) rfl (nI_inc _) (by decide) rfl (fun ls hl => ?_)
    refine lv_goto (tgt := 4) hx hb dX1_bits_21 (by decide) ?_
    exact ih_4 _ (by omega) (lv_sub hl [2, 1, 0] rfl)
end
section
/-! the pure functions over states -/
def ix (n : Nat) : Int32 := if n = 8 then -1 else nI n
theorem ix_lt {n : Nat} (h : n < 8) : ix n = nI n := by rw [ix, if_neg (by omega)]
theorem ix_8 : ix 8 = -1 := rfl
theorem ix_0 {n : Nat} (h : n ≤ 8) : ix n = 0 ↔ n = 0 := by
  have h2 : ∀ n, n < 9 → (ix n = 0 ↔ n = 0) := by decide
  exact h2 n (by omega)
theorem ix_m1 {n : Nat} (h : n ≤ 8) : ix n = -1 ↔ n = 8 := by
  have h2 : ∀ n, n < 9 → (ix n = -1 ↔ n = 8) := by decide
  exact h2 n (by omega)
theorem ix_eq {n i : Nat} (h : n ≤ 8) (hi : i < 8) : nI i = ix n ↔ i = n := by
  have h2 : ∀ n, n < 9 → ∀ i, i < 8 → (nI i = ix n ↔ i = n) := by decide
  exact h2 n (by omega) i hi
def nrN (d : Nat → Int32) (but : Nat) : Nat → Nat
  | 0 => 8
  | g + 1 => if g ≠ but ∧ (nrN d but g = 8 ∨ d g < d (nrN d but g)) then g else nrN d but g
theorem nrN_s (d : Nat → Int32) (but g : Nat) : nrN d but (g + 1) = if g ≠ but ∧ (nrN d but g = 8 ∨ d g < d (nrN d but g)) then g else nrN d but g := rfl
def nrS (but : Nat) : Nat := if but = 0 then 1 else 0
theorem nr_start (d : Nat → Int32) (but : Nat) : nrN d but (nrS but + 1) = nrS but := by
  unfold nrS
  by_cases h : but = 0
  · subst h
    simp [nrN]
  · have h2 : ¬ 0 = but := fun q => h q.symm
    simp [nrN, h, h2]
theorem nr_eq {d : Nat → Int32} {but i : Nat} (h : i = but) : nrN d but (i + 1) = nrN d but i := by
  rw [nrN_s, if_neg (fun q => q.1 h)]
theorem nr_lt {d : Nat → Int32} {but i n : Nat} (h : i ≠ but) (hn : n = nrN d but i) (hd : d i < d n) : i = nrN d but (i + 1) := by
  rw [nrN_s, if_pos ⟨h, Or.inr (by rw [← hn]; exact hd)⟩]
theorem nr_ge {d : Nat → Int32} {but i n : Nat} (hn : n = nrN d but i) (h8 : n < 8) (hd : ¬ d i < d n) : n = nrN d but (i + 1) := by
  rw [nrN_s, if_neg, ← hn]
  rintro ⟨-, q | q⟩
  · omega
  · exact hd (by rw [hn]; exact q)
theorem nr_mono {d : Nat → Int32} {but : Nat} : ∀ g, nrN d but g ≠ 8 → g ≤ 8 → nrN d but (g + 1) ≠ 8 ∨ g = 8 := by
  intro g h hg
  by_cases h8 : g = 8
  · exact Or.inr h8
  · refine Or.inl ?_
    rw [nrN_s]
    split
    · omega
    · exact h
theorem nr_lt8 (d : Nat → Int32) (but : Nat) : nrN d but 8 < 8 := by
  have key : ∀ g, nrS but + 1 ≤ g → g ≤ 8 → nrN d but g < 8 := by
    intro g
    induction g with
    | zero => intro h; omega
    | succ g ih =>
      intro h1 h2
      by_cases h : nrS but + 1 = g + 1
      · have h3 := nr_start d but
        rw [h] at h3
        have h4 : nrS but < 2 := by unfold nrS; split <;> decide
        omega
      · have h3 := ih (by omega) (by omega)
        rw [nrN_s]
        split <;> omega
  have h4 : nrS but < 2 := by unfold nrS; split <;> decide
  exact key 8 (by omega) (Nat.le_refl _)
def rdG (d : Nat → Int32) (ds : Int32) : Nat := if d (nrN d (nrN d 8 8) 8) - d (nrN d 8 8) < ds then nrN d (nrN d 8 8) 8 else nrN d 8 8
theorem rdG_lt (d : Nat → Int32) (ds : Int32) : rdG d ds < 8 := by
  unfold rdG
  split
  · exact nr_lt8 _ _
  · exact nr_lt8 _ _
def rtN (r : Nat → Nat) : Nat → Nat
  | 0 => 0
  | j + 1 => rtN r j + r j * 8 ^ j
theorem rtN_lt {r : Nat → Nat} (h : ∀ j, r j < 8) : ∀ k, rtN r k < 8 ^ k
  | 0 => Nat.one_pos
  | k + 1 => by
    have h1 := rtN_lt h k
    have h2 := h k
    show rtN r k + r k * 8 ^ k < 8 ^ k * 8
    have h3 : r k * 8 ^ k ≤ 7 * 8 ^ k := Nat.mul_le_mul_right _ (by omega)
    omega
theorem rt_or {a b j : Nat} (ha : a < 8 ^ j) (hb : b < 8) (hj : j < 5) : nI a ||| (nI b <<< (nI (3 * j) &&& 31)) = nI (a + b * 8 ^ j) := by
  have hs : ∀ j, j < 5 → (((nI (3 * j) &&& 31).toBitVec.smod 32).toNat) = 3 * j := by decide
  have e8 : 8 ^ j = 2 ^ (3 * j) := by rw [Nat.pow_mul]
  have h5 : 8 ^ j ≤ 4096 := Nat.pow_le_pow_right (n := 8) (by decide) (show j ≤ 4 by omega)
  have h6 : b * 8 ^ j ≤ 7 * 8 ^ j := Nat.mul_le_mul_right _ (by omega)
  rw [pk_shlN _ (3 * j) (hs j hj) (by rw [← e8]; omega), Int32.or_comm, ← e8, Nat.mul_comm b, e8, fa_or_sum b (by rw [← e8]; exact ha), Nat.add_comm]
def anyB (p : Nat → Bool) : Nat → Bool
  | 0 => false
  | n + 1 => anyB p n || p n
theorem anyB_t {p : Nat → Bool} {i : Nat} (h : p i = true) : ∀ {n : Nat}, i < n → anyB p n = true := by
  intro n
  induction n with
  | zero => intro q; omega
  | succ n ih =>
    intro q
    by_cases e : i = n
    · subst e; simp [anyB, h]
    · simp [anyB, ih (by omega)]
theorem anyB_cong {p q : Nat → Bool} : ∀ {n : Nat}, (∀ i, i < n → p i = q i) → anyB p n = anyB q n := by
  intro n
  induction n with
  | zero => intro _; rfl
  | succ n ih => intro h; rw [anyB, anyB, ih (fun i hi => h i (by omega)), h n (by omega)]
theorem anyB_iff {p : Nat → Bool} : ∀ {n : Nat}, anyB p n = true ↔ ∃ i, i < n ∧ p i = true := by
  intro n
  induction n with
  | zero =>
    constructor
    · intro h
      cases h
    · rintro ⟨i, h, -⟩
      omega
  | succ n ih =>
    rw [anyB, Bool.or_eq_true, ih]
    constructor
    · rintro (⟨i, h1, h2⟩ | h)
      · exact ⟨i, by omega, h2⟩
      · exact ⟨n, by omega, h⟩
    · rintro ⟨i, h1, h2⟩
      by_cases e : i = n
      · subst e; exact Or.inr h2
      · exact Or.inl ⟨i, by omega, h2⟩
def pwC (wd : Nat → Int32) (sp : Nat → Int32) (t : Nat) : Nat → Int32
  | 0 => nI 0
  | j + 1 => if 0 < j then (pwC wd sp t j + wd (dg t j)) + sp (dg t j * 8 + dg t (j - 1)) else pwC wd sp t j + wd (dg t j)
def pwR (wd : Nat → Int32) (sp : Nat → Int32) (t n : Nat) : Nat → Int32
  | 0 => nI 0
  | j + 1 => (pwR wd sp t n j + wd (dg t (n - 1 - j))) + (if 0 < j then sp (8 * dg t (n - 1 - (j - 1)) + dg t (n - 1 - j)) else nI 0)
def plF (x : Int32) : Int32 := if nI 10 < x then (if nI 20 < x then (if nI 30 < x then -1 else nI 10) else nI 7) else nI 4
-- walkers
def fb (b : Nat → Bool) : Nat → Nat
  | 0 => 4
  | n + 1 => if fb b n = 4 ∧ b n = true then n else fb b n
theorem fb_s (b : Nat → Bool) (n : Nat) : fb b (n + 1) = if fb b n = 4 ∧ b n = true then n else fb b n := rfl
theorem fb_stay {b : Nat → Bool} {n e : Nat} (h : fb b n = e) (he : e ≠ 4) : ∀ m, n ≤ m → fb b m = e := by
  intro m
  induction m with
  | zero => intro q; have : n = 0 := by omega
            subst this; exact h
  | succ m ih =>
    intro q
    by_cases e2 : n = m + 1
    · subst e2; exact h
    · have h2 := ih (by omega)
      rw [fb_s, if_neg (fun z => he (by rw [← h2]; exact z.1)), h2]
theorem fb_le (b : Nat → Bool) : ∀ n, n ≤ 4 → fb b n = 4 ∨ (fb b n < n ∧ b (fb b n) = true)
  | 0, _ => Or.inl rfl
  | n + 1, h => by
    rcases fb_le b n (by omega) with q | ⟨q1, q2⟩
    · by_cases hb : b n = true
      · rw [fb_s, if_pos ⟨q, hb⟩]; exact Or.inr ⟨by omega, hb⟩
      · rw [fb_s, if_neg (fun z => hb z.2)]; exact Or.inl q
    · have h3 : fb b n ≠ 4 := by omega
      rw [fb_s, if_neg (fun z => h3 z.1)]
      exact Or.inr ⟨by omega, q2⟩
def nxE (a b : Nat → Bool) : Nat := if fb a 4 = 4 then fb b 4 else fb a 4
def wv (p e : Nat) : Int32 := if e = 4 then -1 else nI (4 * p + e)
theorem wv_m1 {p e : Nat} (hp : p < 8) (he : e ≤ 4) : wv p e = -1 ↔ e = 4 := by
  have h : ∀ p, p < 8 → ∀ e, e < 5 → (wv p e = -1 ↔ e = 4) := by decide
  exact h p hp e (by omega)
theorem wv_lt {p e : Nat} (he : e < 4) : wv p e = nI (4 * p + e) := by rw [wv, if_neg (by omega)]
def nx (told : Nat → Bool) (Ld : Nat → Nat) (tk : Nat → Bool) (p : Nat) : Nat := nxE (fun e => decide (Ld (4 * p + e) ≠ 8) && told (4 * p + e)) (fun e => decide (Ld (4 * p + e) ≠ 8) && !tk (4 * p + e))
theorem nx_lt {told : Nat → Bool} {Ld : Nat → Nat} {tk : Nat → Bool} {p : Nat} : nx told Ld tk p = 4 ∨ (nx told Ld tk p < 4 ∧ Ld (4 * p + nx told Ld tk p) ≠ 8) := by
  unfold nx nxE
  split
  · rcases fb_le (fun e => decide (Ld (4 * p + e) ≠ 8) && !tk (4 * p + e)) 4 (Nat.le_refl _) with q | ⟨q1, q2⟩
    · exact Or.inl q
    · refine Or.inr ⟨q1, ?_⟩
      simp only [Bool.and_eq_true, decide_eq_true_eq] at q2
      exact q2.1
  · rename_i h
    rcases fb_le (fun e => decide (Ld (4 * p + e) ≠ 8) && told (4 * p + e)) 4 (Nat.le_refl _) with q | ⟨q1, q2⟩
    · exact absurd q h
    · refine Or.inr ⟨q1, ?_⟩
      simp only [Bool.and_eq_true, decide_eq_true_eq] at q2
      exact q2.1
def tkA (tk : Nat → Bool) (w : Nat) : Nat → Bool := fun v => tk v || decide (v = w)
def sa (told : Nat → Bool) (Ld : Nat → Nat) (arr : Nat → Bool) : Nat → Nat → Nat → (Nat → Bool) → Int32
  | 0, _, _, _ => -1
  | f + 1, n, p, tk => if arr p then nI n else if nx told Ld tk p = 4 then -1 else sa told Ld arr f (n + 1) (Ld (4 * p + nx told Ld tk p)) (tkA tk (4 * p + nx told Ld tk p))
def pl (told : Nat → Bool) (Ld : Nat → Nat) (arr : Nat → Bool) : Nat → Nat → (Nat → Bool) → Nat
  | 0, p, _ => p
  | f + 1, p, tk => if arr p then p else if nx told Ld tk p = 4 then p else pl told Ld arr f (Ld (4 * p + nx told Ld tk p)) (tkA tk (4 * p + nx told Ld tk p))
def tk0 : Nat → Bool := fun _ => false
/-- the taken exits as bits of an int -/
def tkR (x : Int32) (tk : Nat → Bool) : Prop := ∀ w, w < 32 → (x &&& (nI 1 <<< (nI w &&& 31)) = 0 ↔ tk w = false)
theorem tkR_0 : tkR (nI 0) tk0 := by
  intro w hw
  have h : ∀ w, w < 32 → nI 0 &&& (nI 1 <<< (nI w &&& 31)) = 0 := by decide
  exact ⟨fun _ => rfl, fun _ => h w hw⟩
theorem bitT {x : Int32} {w : Nat} (hw : w < 32) : x &&& (nI 1 <<< (nI w &&& 31)) = 0 ↔ bt x w = false := by
  have h1 : ∀ w, w < 32 → ∀ i, i < 32 → bt (nI 1 <<< (nI w &&& 31)) i = decide (i = w) := by decide +kernel
  constructor
  · intro h
    have h2 : bt (x &&& (nI 1 <<< (nI w &&& 31))) w = false := by rw [h]; exact b_0 w
    rw [b_and, h1 w hw w hw] at h2
    simpa using h2
  · intro h
    refine b_ext fun i hi => ?_
    rw [b_and, h1 w hw i hi, b_0]
    by_cases e : i = w
    · subst e; simp [h]
    · simp [e]
theorem tkR_add {x : Int32} {tk : Nat → Bool} (h : tkR x tk) {w : Nat} (hw : w < 32) : tkR (x ||| (nI 1 <<< (nI w &&& 31))) (tkA tk w) := by
  intro v hv
  have h1 : ∀ w, w < 32 → ∀ i, i < 32 → bt (nI 1 <<< (nI w &&& 31)) i = decide (i = w) := by decide +kernel
  have h2 := h v hv
  rw [bitT hv] at h2 ⊢
  rw [b_or, h1 w hw v hv]
  unfold tkA
  rw [Bool.or_eq_false_iff, Bool.or_eq_false_iff, h2]
-- the worlds: the class's object and its rows; the reference's
abbrev wx (cI : ClassId) (q : Nat → Nat) (sh sp ld nm tx ds ct : Nat → Int32) (co : Int64) (kg : Int32) (ks : Nat → Int32) : va_W := [(q 0, .inr (0, [.ref (q 1), .ref (q 2), .ref (q 3), .ref (q 4), .ref (q 5), .ref (q 6), .ref (q 7), .long co, .int kg, .ref (q 8)])), (q 1, .inl (cI, 8, .inl sh)), (q 2, .inl (cI, 64, .inl sp)), (q 3, .inl (cI, 32, .inl ld)), (q 4, .inl (cI, 8, .inl nm)), (q 5, .inl (cI, 32, .inl tx)), (q 6, .inl (cI, 32, .inl ds)), (q 7, .inl (cI, 160, .inl ct)), (q 8, .inl (cI, 8, .inl ks))]
abbrev wm (cI cZ : ClassId) (q : Nat → Nat) (th : Int32) (sh sp ld nm nk tx mn ds ct : Nat → Int32) (co : Int64) (st at0 ha : Int32) (tk : Nat → Int32) : va_W := [(q 0, .inr (1, [.int th, .ref (q 1), .ref (q 2), .ref (q 3), .ref (q 4), .ref (q 5), .ref (q 6), .ref (q 7), .ref (q 8), .ref (q 9), .long co, .int st, .int at0, .int ha, .ref (q 10)])), (q 1, .inl (cI, 8, .inl sh)), (q 2, .inl (cI, 64, .inl sp)), (q 3, .inl (cI, 32, .inl ld)), (q 4, .inl (cI, 8, .inl nm)), (q 5, .inl (cI, 8, .inl nk)), (q 6, .inl (cI, 32, .inl tx)), (q 7, .inl (cI, 32, .inl mn)), (q 8, .inl (cI, 32, .inl ds)), (q 9, .inl (cI, 160, .inl ct)), (q 10, .inl (cZ, 32, .inl tk))]
end
section
abbrev wdS (sh : Nat → Int32) : Nat → Int32 := fun g => wdF (hcC (sh g))
abbrev dS (sh : Nat → Int32) (x : Int32) : Nat → Int32 := fun g => df x (sh g)
abbrev rdS (sh ct ds : Nat → Int32) (w : Nat) : Nat → Nat := fun j => rdG (dS sh (ct (w * 5 + j))) (ds w)
abbrev oldC (sh ct : Nat → Int32) (w t : Nat) : Nat → Bool := fun j => decide (ct (w * 5 + j) ≠ sh (dg t j))
def rdas (sh ct ds : Nat → Int32) (w k gk gt : Nat) : Bool := decide (k = gk ∧ rtN (rdS sh ct ds w) k = gt)
abbrev toldC (sh ct ds : Nat → Int32) (K : Nat → Nat) (gk gt : Nat) : Nat → Bool := fun w => rdas sh ct ds w (K w) gk gt
abbrev arrC (NK NT : Nat → Nat) (gk gt : Nat) : Nat → Bool := fun p => decide (NK p = gk ∧ NT p = gt)
theorem pwC_z {wd sp : Nat → Int32} {t j : Nat} (h : j = 0) : pwC wd sp t (j + 1) = pwC wd sp t j + wd (dg t j) := by
  show (if 0 < j then _ else _) = _
  rw [if_neg (by omega)]
theorem pwC_p {wd sp : Nat → Int32} {t j : Nat} (h : 0 < j) : pwC wd sp t (j + 1) = (pwC wd sp t j + wd (dg t j)) + sp (dg t j * 8 + dg t (j - 1)) := by
  show (if 0 < j then _ else _) = _
  rw [if_pos h]
theorem le_nlt {a b : Int32} (h : a ≤ b) : ¬ b < a := by
  rw [fa_le] at h
  rw [fa_lt]
  omega
theorem fb_f {b : Nat → Bool} {n : Nat} (h : b n = false) : fb b (n + 1) = fb b n := by rw [fb_s, if_neg (fun q => by rw [h] at q; exact absurd q.2 (by decide))]
theorem fb_t {b : Nat → Bool} {n : Nat} (h4 : fb b n = 4) (h : b n = true) : fb b (n + 1) = n := by rw [fb_s, if_pos ⟨h4, h⟩]
theorem fb_n {b : Nat → Bool} {n : Nat} (h4 : fb b n ≠ 4) : fb b (n + 1) = fb b n := by rw [fb_s, if_neg (fun q => h4 q.1)]
theorem nx_t {a b : Nat → Bool} {i : Nat} (h4 : fb a i = 4) (h : a i = true) (hi : i < 4) : nxE a b = i := by
  have h1 := fb_stay (fb_t h4 h) (by omega) 4 (by omega)
  rw [nxE, h1, if_neg (by omega)]
theorem nx_n {a b : Nat → Bool} (h4 : fb a 4 = 4) : nxE a b = fb b 4 := by rw [nxE, if_pos h4]
theorem sa_a {told : Nat → Bool} {Ld : Nat → Nat} {arr : Nat → Bool} {f n p : Nat} {tk : Nat → Bool} (h : arr p = true) : sa told Ld arr (f + 1) n p tk = nI n := by
  show (if arr p then _ else _) = _
  rw [if_pos h]
theorem sa_l {told : Nat → Bool} {Ld : Nat → Nat} {arr : Nat → Bool} {f n p : Nat} {tk : Nat → Bool} (h : arr p = false) (h4 : nx told Ld tk p = 4) : sa told Ld arr (f + 1) n p tk = -1 := by
  show (if arr p then _ else if _ then _ else _) = _
  rw [if_neg (by rw [h]; decide), if_pos h4]
theorem sa_s {told : Nat → Bool} {Ld : Nat → Nat} {arr : Nat → Bool} {f n p e : Nat} {tk : Nat → Bool} (h : arr p = false) (h4 : nx told Ld tk p = e) (he : e < 4) : sa told Ld arr (f + 1) n p tk = sa told Ld arr f (n + 1) (Ld (4 * p + e)) (tkA tk (4 * p + e)) := by
  show (if arr p then _ else if _ then _ else _) = _
  rw [if_neg (by rw [h]; decide), if_neg (by omega), h4]
theorem pl_a {told : Nat → Bool} {Ld : Nat → Nat} {arr : Nat → Bool} {f p : Nat} {tk : Nat → Bool} (h : arr p = true) : pl told Ld arr (f + 1) p tk = p := by
  show (if arr p then _ else _) = _
  rw [if_pos h]
theorem pl_l {told : Nat → Bool} {Ld : Nat → Nat} {arr : Nat → Bool} {f p : Nat} {tk : Nat → Bool} (h4 : nx told Ld tk p = 4) : pl told Ld arr (f + 1) p tk = p := by
  show (if arr p then p else if nx told Ld tk p = 4 then p else _) = p
  rw [if_pos h4]
  split <;> rfl
theorem pl_s {told : Nat → Bool} {Ld : Nat → Nat} {arr : Nat → Bool} {f p e : Nat} {tk : Nat → Bool} (h : arr p = false) (h4 : nx told Ld tk p = e) (he : e < 4) : pl told Ld arr (f + 1) p tk = pl told Ld arr f (Ld (4 * p + e)) (tkA tk (4 * p + e)) := by
  show (if arr p then _ else if _ then _ else _) = _
  rw [if_neg (by rw [h]; decide), if_neg (by omega), h4]
set_option maxHeartbeats 4000000 in
set_option maxRecDepth 100000 in
theorem c_X0_packedWidth (l : Launch) (D : va_G) (cI : ClassId) (q : Nat → Nat) (sh sp ld nm tx ds ct : Nat → Int32) (co : Int64) (kg : Int32) (ks : Nat → Int32) (t k : Nat) (ht : t < 32768) (hk : k ≤ 5) : k_M l yX0_packedWidth wsX0_packedWidth ({ frames := 4, cells := 0, slots := 0, locals := 95 } : Room) [.ref (q 0), .int (nI (32768 * k + t))] (k_B D (wx cI q sh sp ld nm tx ds ct co kg ks) [(cI, .int)]) (some (.int (pwC (wdS sh) sp t k))) := by
  refine k_head (cc := cX0_packedWidth) (maxL := 5) (ret := some .int) [(0, .ref (q 0)), (1, .int (nI (32768 * k + t)))] (by decide) rfl (Nat.le_of_ble_eq_true rfl) rfl ?_
  intro p e s m below meth c ls hx hb hr hml hown hts hlocks hname hB hl
  have hown : s.vm.findClass RX0 = some m.cls := hown
  obtain ⟨hP, hK⟩ := hB
  have hin : ∀ w ∈ wsX00, w ∈ wsX0_packedWidth := fun w h => List.mem_cons_of_mem _ (List.mem_append_right _ h)
  refine lv_iconst (v := nI 0) hx hb dX0_packedWidth_0 (by decide) ?_
  refine lv_istore_n (lv' := [(2, .int (nI 0)), (0, .ref (q 0)), (1, .int (nI (32768 * k + t)))]) hx hb dX0_packedWidth_1 rfl hl (by decide) rfl (fun ls hl => ?_)
  refine lv_iconst (v := nI 0) hx hb dX0_packedWidth_2 (by decide) ?_
  refine lv_istore_n (lv' := [(3, .int (nI 0)), (2, .int (nI 0)), (0, .ref (q 0)), (1, .int (nI (32768 * k + t)))]) hx hb dX0_packedWidth_3 rfl hl (by decide) rfl (fun ls hl => ?_)
  refine W.loop (fun i ls => ∃ (v2 : Int32), (v2 = pwC (wdS sh) sp t i) ∧ lv_has ls 5 [(0, .ref (q 0)), (1, .int (nI (32768 * k + t))), (2, .int v2), (3, .int (nI i))]) (k) (0) (by omega) ⟨nI 0, rfl, lv_sub hl [2, 3, 1, 0] rfl⟩ ?_
  intro i ls hi_4 hI_4 ih_4
  obtain ⟨v2, hf0_4, hl⟩ := hI_4
  refine lv_iload_n hx hb dX0_packedWidth_4 rfl (lv_at hl 3 rfl) ?_
  refine lv_iload_n hx hb dX0_packedWidth_5 rfl (lv_at hl 1 rfl) ?_
  refine k_callSi (As := [.int (nI (32768 * k + t))]) (rest := [.int (nI i)]) ⟨hx, hb, hml, hown, hts⟩ (c_X0_manyOf l t k (by omega) (by omega)) (va_cwS 1 hts gX0_packedWidth_X0_manyOf rfl rfl rfl (by decide +kernel) ⟨Nat.le_of_ble_eq_true rfl, Nat.le_of_ble_eq_true rfl⟩) k_bl_tt (fun _ _ _ => trivial) rfl hl.1 rfl (Nat.le_of_ble_eq_true rfl) dX0_packedWidth_6 ⟨Nat.zero_le _, Nat.zero_le _⟩ ?_
  refine n_icmp_ge (tgt := 62) hx hb dX0_packedWidth_9 (by decide) (by omega) (by omega) (fun c_9 => ?_) (fun c_9 => ?_)
  · refine lv_iload_n hx hb dX0_packedWidth_62 rfl (lv_at hl 2 rfl) ?_
    exact k_iret hx hb hr hlocks dX0_packedWidth_63 (by rw [hf0_4, show i = k from by omega])
  · refine lv_iload_n hx hb dX0_packedWidth_12 rfl (lv_at hl 1 rfl) ?_
    refine lv_iload_n hx hb dX0_packedWidth_13 rfl (lv_at hl 3 rfl) ?_
    refine k_callSi (As := [.int (nI (32768 * k + t)), .int (nI i)]) (rest := []) ⟨hx, hb, hml, hown, hts⟩ (c_X0_glyphAt l t k i (by omega) (by omega) (by omega)) (va_cwS 2 hts gX0_packedWidth_X0_glyphAt rfl rfl rfl (by decide +kernel) ⟨Nat.le_of_ble_eq_true rfl, Nat.le_of_ble_eq_true rfl⟩) k_bl_tt (fun _ _ _ => trivial) rfl hl.1 rfl (Nat.le_of_ble_eq_true rfl) dX0_packedWidth_14 ⟨Nat.zero_le _, Nat.zero_le _⟩ ?_
    refine lv_istore (lv' := [(4, .int (nI (dg t i))), (0, .ref (q 0)), (1, .int (nI (32768 * k + t))), (2, .int v2), (3, .int (nI i))]) hx hb dX0_packedWidth_17 hl (by decide) rfl (fun ls hl => ?_)
    refine lv_iload_n hx hb dX0_packedWidth_19 rfl (lv_at hl 3 rfl) ?_
    refine lv_aload_n hx hb dX0_packedWidth_20 rfl (lv_at hl 1 rfl) ?_
    refine va_get (D := D) (ci := 0) (v := .ref (q 1)) (C := RX0) (T := TX0) (N := 10) hx hb hts hin hown hK hP 0 rfl rfl 0 (by decide) (hts (.fieldLink RX0 9 "SignRail" "shapes" "[I") (by decide +kernel)) (fun _ h9 => h9) rfl dX0_packedWidth_21 ?_
    refine lv_iload hx hb dX0_packedWidth_24 (lv_at hl 0 rfl) ?_
    refine n_iald hx hb hK hP 1 0 rfl rfl (k := (dg t i)) (dg_lt _ _) (Nat.le_of_ble_eq_true rfl) dX0_packedWidth_26 ?_
    refine k_callSi (As := [.int (sh (dg t i))]) (rest := [.int v2]) ⟨hx, hb, hml, hown, hts⟩ (c_X0_shapeWidth l (sh (dg t i))) (va_cwS 1 hts gX0_packedWidth_X0_shapeWidth rfl rfl rfl (by decide +kernel) ⟨Nat.le_of_ble_eq_true rfl, Nat.le_of_ble_eq_true rfl⟩) k_bl_tt (fun _ _ _ => trivial) rfl hl.1 rfl (Nat.le_of_ble_eq_true rfl) dX0_packedWidth_27 ⟨Nat.zero_le _, Nat.zero_le _⟩ ?_
    refine lv_iadd hx hb dX0_packedWidth_30 ?_
    refine lv_istore_n (lv' := [(2, .int (v2 + (wdF (hcC (sh (dg t i)))))), (4, .int (nI (dg t i))), (0, .ref (q 0)), (1, .int (nI (32768 * k + t))), (3, .int (nI i))]) hx hb dX0_packedWidth_31 rfl hl (by decide) rfl (fun ls hl => ?_)
    refine lv_iload_n hx hb dX0_packedWidth_32 rfl (lv_at hl 4 rfl) ?_
    refine n_if_le (tgt := 56) hx hb dX0_packedWidth_33 (by decide) (by omega) (fun c_33 => ?_) (fun c_33 => ?_)
    · refine lv_iinc (v := nI (i + 1)) (lv' := [(3, .int (nI (i + 1))), (2, .int (v2 + (wdF (hcC (sh (dg t i)))))), (4, .int (nI (dg t i))), (0, .ref (q 0)), (1, .int (nI (32768 * k + t)))]) hx hb dX0_packedWidth_56 hl (k := 4) rfl (nI_inc _) (by decide) rfl (fun ls hl => ?_)
      refine lv_goto (tgt := 4) hx hb dX0_packedWidth_59 (by decide) ?_
      exact ih_4 _ (by omega) ⟨v2 + (wdF (hcC (sh (dg t i)))), by rw [pwC_z c_33, ← hf0_4], lv_sub hl [3, 4, 1, 0] rfl⟩
    · refine lv_iload_n hx hb dX0_packedWidth_36 rfl (lv_at hl 0 rfl) ?_
      refine lv_aload_n hx hb dX0_packedWidth_37 rfl (lv_at hl 2 rfl) ?_
      refine va_get (D := D) (ci := 0) (v := .ref (q 2)) (C := RX0) (T := TX0) (N := 10) hx hb hts hin hown hK hP 0 rfl rfl 1 (by decide) (hts (.fieldLink RX0 13 "SignRail" "spaces" "[I") (by decide +kernel)) (fun _ h9 => h9) rfl dX0_packedWidth_38 ?_
      refine lv_iload hx hb dX0_packedWidth_41 (lv_at hl 1 rfl) ?_
      refine lv_iload_n hx hb dX0_packedWidth_43 rfl (lv_at hl 3 rfl) ?_
      refine lv_iload_n hx hb dX0_packedWidth_44 rfl (lv_at hl 4 rfl) ?_
      refine lv_iconst (v := nI 1) hx hb dX0_packedWidth_45 (by decide) ?_
      refine lv_isub hx hb dX0_packedWidth_46 ?_
      refine lv_as (y := nI (i - 1)) (pk_sub (by omega)) ?_
      refine k_callSi (As := [.int (nI (32768 * k + t)), .int (nI (i - 1))]) (rest := [.int (nI (dg t i)), .ref (q 2), .int (v2 + (wdF (hcC (sh (dg t i)))))]) ⟨hx, hb, hml, hown, hts⟩ (c_X0_glyphAt l t k (i - 1) (by omega) (by omega) (by omega)) (va_cwS 2 hts gX0_packedWidth_X0_glyphAt rfl rfl rfl (by decide +kernel) ⟨Nat.le_of_ble_eq_true rfl, Nat.le_of_ble_eq_true rfl⟩) k_bl_tt (fun _ _ _ => trivial) rfl hl.1 rfl (Nat.le_of_ble_eq_true rfl) dX0_packedWidth_47 ⟨Nat.zero_le _, Nat.zero_le _⟩ ?_
      refine k_callSi (As := [.int (nI (dg t i)), .int (nI (dg t (i - 1)))]) (rest := [.ref (q 2), .int (v2 + (wdF (hcC (sh (dg t i)))))]) ⟨hx, hb, hml, hown, hts⟩ (c_X0_pairOf l (dg t i) (dg t (i - 1))) (va_cwS 2 hts gX0_packedWidth_X0_pairOf rfl rfl rfl (by decide +kernel) ⟨Nat.le_of_ble_eq_true rfl, Nat.le_of_ble_eq_true rfl⟩) k_bl_tt (fun _ _ _ => trivial) rfl hl.1 rfl (Nat.le_of_ble_eq_true rfl) dX0_packedWidth_50 ⟨Nat.zero_le _, Nat.zero_le _⟩ ?_
      refine n_iald hx hb hK hP 2 0 rfl rfl (k := ((dg t i) * 8 + (dg t (i - 1)))) (by have h1 := dg_lt t i; have h2 := dg_lt t (i - 1); omega) (Nat.le_of_ble_eq_true rfl) dX0_packedWidth_53 ?_
      refine lv_iadd hx hb dX0_packedWidth_54 ?_
      refine lv_istore_n (lv' := [(2, .int ((v2 + (wdF (hcC (sh (dg t i))))) + (sp ((dg t i) * 8 + (dg t (i - 1)))))), (4, .int (nI (dg t i))), (0, .ref (q 0)), (1, .int (nI (32768 * k + t))), (3, .int (nI i))]) hx hb dX0_packedWidth_55 rfl hl (by decide) rfl (fun ls hl => ?_)
      refine lv_iinc (v := nI (i + 1)) (lv' := [(3, .int (nI (i + 1))), (2, .int ((v2 + (wdF (hcC (sh (dg t i))))) + (sp ((dg t i) * 8 + (dg t (i - 1)))))), (4, .int (nI (dg t i))), (0, .ref (q 0)), (1, .int (nI (32768 * k + t)))]) hx hb dX0_packedWidth_56 hl (k := 4) rfl (nI_inc _) (by decide) rfl (fun ls hl => ?_)
      refine lv_goto (tgt := 4) hx hb dX0_packedWidth_59 (by decide) ?_
      exact ih_4 _ (by omega) ⟨(v2 + (wdF (hcC (sh (dg t i))))) + (sp ((dg t i) * 8 + (dg t (i - 1)))), by rw [pwC_p c_33, ← hf0_4], lv_sub hl [3, 4, 1, 0] rfl⟩
set_option maxHeartbeats 4000000 in
set_option maxRecDepth 100000 in
theorem c_X0_plateFor (l : Launch) (D : va_G) (cI : ClassId) (q : Nat → Nat) (sh sp ld nm tx ds ct : Nat → Int32) (co : Int64) (kg : Int32) (ks : Nat → Int32) (t k : Nat) (ht : t < 32768) (hk : k ≤ 5) : k_M l yX0_plateFor wsX0_plateFor ({ frames := 5, cells := 0, slots := 0, locals := 119 } : Room) [.ref (q 0), .int (nI (32768 * k + t))] (k_B D (wx cI q sh sp ld nm tx ds ct co kg ks) [(cI, .int)]) (some (.int (plF (pwC (wdS sh) sp t k)))) := by
  refine k_head (cc := cX0_plateFor) (maxL := 3) (ret := some .int) [(0, .ref (q 0)), (1, .int (nI (32768 * k + t)))] (by decide) rfl (Nat.le_of_ble_eq_true rfl) rfl ?_
  intro p e s m below meth c ls hx hb hr hml hown hts hlocks hname hB hl
  have hown : s.vm.findClass RX0 = some m.cls := hown
  obtain ⟨hP, hK⟩ := hB
  have hin : ∀ w ∈ wsX00, w ∈ wsX0_plateFor := fun w h => List.mem_cons_of_mem _ (List.mem_append_right _ h)
  refine lv_aload_n hx hb dX0_plateFor_0 rfl (lv_at hl 0 rfl) ?_
  refine lv_iload_n hx hb dX0_plateFor_1 rfl (lv_at hl 1 rfl) ?_
  refine k_callVi (As := [.int (nI (32768 * k + t))]) (rest := []) ⟨hx, hb, hml, hown, hts⟩ (c_X0_packedWidth l D cI q sh sp ld nm tx ds ct co kg ks t k (by omega) (by omega)) (cwV 1 hts gX0_plateFor_X0_packedWidth rfl rfl rfl (by decide +kernel) ⟨Nat.le_of_ble_eq_true rfl, Nat.le_of_ble_eq_true rfl⟩) k_B_bl (k_B_of hP hK) (va_recv hK hP (ci := 0) (q0 := 0) rfl rfl) rfl hl.1 rfl (Nat.le_of_ble_eq_true rfl) dX0_plateFor_2 ⟨Nat.zero_le _, Nat.zero_le _⟩ ?_
  refine lv_istore_n (lv' := [(2, .int (pwC (wdS sh) sp t k)), (0, .ref (q 0)), (1, .int (nI (32768 * k + t)))]) hx hb dX0_plateFor_5 rfl hl (by decide) rfl (fun ls hl => ?_)
  refine lv_iload_n hx hb dX0_plateFor_6 rfl (lv_at hl 0 rfl) ?_
  refine lv_bipush (v := nI 10) hx hb dX0_plateFor_7 (by decide) ?_
  refine lv_icmp_gt (tgt := 14) hx hb dX0_plateFor_9 (by decide) (fun c_9 => ?_) (fun c_9 => ?_)
  · refine lv_iload_n hx hb dX0_plateFor_14 rfl (lv_at hl 0 rfl) ?_
    refine lv_bipush (v := nI 20) hx hb dX0_plateFor_15 (by decide) ?_
    refine lv_icmp_gt (tgt := 23) hx hb dX0_plateFor_17 (by decide) (fun c_17 => ?_) (fun c_17 => ?_)
    · refine lv_iload_n hx hb dX0_plateFor_23 rfl (lv_at hl 0 rfl) ?_
      refine lv_bipush (v := nI 30) hx hb dX0_plateFor_24 (by decide) ?_
      refine lv_icmp_gt (tgt := 34) hx hb dX0_plateFor_26 (by decide) (fun c_26 => ?_) (fun c_26 => ?_)
      · refine lv_iconst (v := (-1)) hx hb dX0_plateFor_34 (by decide) ?_
        exact k_iret hx hb hr hlocks dX0_plateFor_35 (by rw [plF, if_pos c_9, if_pos c_17, if_pos c_26])
      · refine lv_bipush (v := nI 10) hx hb dX0_plateFor_29 (by decide) ?_
        refine lv_goto (tgt := 35) hx hb dX0_plateFor_31 (by decide) ?_
        exact k_iret hx hb hr hlocks dX0_plateFor_35 (by rw [plF, if_pos c_9, if_pos c_17, if_neg c_26])
    · refine lv_bipush (v := nI 7) hx hb dX0_plateFor_20 (by decide) ?_
      exact k_iret hx hb hr hlocks dX0_plateFor_22 (by rw [plF, if_pos c_9, if_neg c_17])
  · refine lv_iconst (v := nI 4) hx hb dX0_plateFor_12 (by decide) ?_
    exact k_iret hx hb hr hlocks dX0_plateFor_13 (by rw [plF, if_neg c_9])
set_option maxHeartbeats 4000000 in
set_option maxRecDepth 100000 in
theorem c_X0_isOutdated (l : Launch) (D : va_G) (cI : ClassId) (q : Nat → Nat) (sh sp ld nm tx ds ct : Nat → Int32) (co : Int64) (kg : Int32) (ks : Nat → Int32) (w t k : Nat) (hw : w < 32) (ht : t < 32768) (hk : k ≤ 5) (htx : tx w = nI (32768 * k + t)) : k_M l yX0_isOutdated wsX0_isOutdated ({ frames := 1, cells := 0, slots := 0, locals := 21 } : Room) [.ref (q 0), .int (nI w)] (k_B D (wx cI q sh sp ld nm tx ds ct co kg ks) [(cI, .int)]) (some (.int (bI (anyB (oldC sh ct w t) k)))) := by
  refine k_head (cc := cX0_isOutdated) (maxL := 4) (ret := some .boolean) [(0, .ref (q 0)), (1, .int (nI w))] (by decide) rfl (Nat.le_of_ble_eq_true rfl) rfl ?_
  intro p e s m below meth c ls hx hb hr hml hown hts hlocks hname hB hl
  have hown : s.vm.findClass RX0 = some m.cls := hown
  obtain ⟨hP, hK⟩ := hB
  have hin : ∀ w ∈ wsX00, w ∈ wsX0_isOutdated := fun w h => List.mem_cons_of_mem _ (List.mem_append_right _ h)
  refine lv_aload_n hx hb dX0_isOutdated_0 rfl (lv_at hl 0 rfl) ?_
  refine va_get (D := D) (ci := 0) (v := .ref (q 5)) (C := RX0) (T := TX0) (N := 10) hx hb hts hin hown hK hP 0 rfl rfl 4 (by decide) (hts (.fieldLink RX0 22 "SignRail" "signTexts" "[I") (by decide +kernel)) (fun _ h9 => h9) rfl dX0_isOutdated_1 ?_
  refine lv_iload_n hx hb dX0_isOutdated_4 rfl (lv_at hl 1 rfl) ?_
  refine n_iald hx hb hK hP 5 0 rfl rfl (k := w) (by omega) (Nat.le_of_ble_eq_true rfl) dX0_isOutdated_5 ?_
  refine lv_as (y := nI (32768 * k + t)) (htx) ?_
  refine lv_istore_n (lv' := [(2, .int (nI (32768 * k + t))), (0, .ref (q 0)), (1, .int (nI w))]) hx hb dX0_isOutdated_6 rfl hl (by decide) rfl (fun ls hl => ?_)
  refine lv_iconst (v := nI 0) hx hb dX0_isOutdated_7 (by decide) ?_
  refine lv_istore_n (lv' := [(3, .int (nI 0)), (2, .int (nI (32768 * k + t))), (0, .ref (q 0)), (1, .int (nI w))]) hx hb dX0_isOutdated_8 rfl hl (by decide) rfl (fun ls hl => ?_)
  refine W.loop (fun i ls => (anyB (oldC sh ct w t) i = false) ∧ lv_has ls 4 [(0, .ref (q 0)), (1, .int (nI w)), (2, .int (nI (32768 * k + t))), (3, .int (nI i))]) (k) (0) (by omega) ⟨rfl, lv_sub hl [2, 3, 1, 0] rfl⟩ ?_
  intro i ls hi_9 hI_9 ih_9
  obtain ⟨hf0_9, hl⟩ := hI_9
  refine lv_iload_n hx hb dX0_isOutdated_9 rfl (lv_at hl 3 rfl) ?_
  refine lv_iload_n hx hb dX0_isOutdated_10 rfl (lv_at hl 2 rfl) ?_
  refine k_callSi (As := [.int (nI (32768 * k + t))]) (rest := [.int (nI i)]) ⟨hx, hb, hml, hown, hts⟩ (c_X0_manyOf l t k (by omega) (by omega)) (va_cwS 1 hts gX0_isOutdated_X0_manyOf rfl rfl rfl (by decide +kernel) ⟨Nat.le_of_ble_eq_true rfl, Nat.le_of_ble_eq_true rfl⟩) k_bl_tt (fun _ _ _ => trivial) rfl hl.1 rfl (Nat.le_of_ble_eq_true rfl) dX0_isOutdated_11 ⟨Nat.zero_le _, Nat.zero_le _⟩ ?_
  refine n_icmp_ge (tgt := 48) hx hb dX0_isOutdated_14 (by decide) (by omega) (by omega) (fun c_14 => ?_) (fun c_14 => ?_)
  · refine lv_iconst (v := nI 0) hx hb dX0_isOutdated_48 (by decide) ?_
    exact k_zret hx hb hr hlocks dX0_isOutdated_49 (by rw [← show i = k from by omega, hf0_9]; rfl)
  · refine lv_aload_n hx hb dX0_isOutdated_17 rfl (lv_at hl 0 rfl) ?_
    refine va_get (D := D) (ci := 0) (v := .ref (q 7)) (C := RX0) (T := TX0) (N := 10) hx hb hts hin hown hK hP 0 rfl rfl 6 (by decide) (hts (.fieldLink RX0 28 "SignRail" "signShapes" "[I") (by decide +kernel)) (fun _ h9 => h9) rfl dX0_isOutdated_18 ?_
    refine lv_iload_n hx hb dX0_isOutdated_21 rfl (lv_at hl 1 rfl) ?_
    refine lv_iconst (v := nI 5) hx hb dX0_isOutdated_22 (by decide) ?_
    refine lv_imul hx hb dX0_isOutdated_23 ?_
    refine lv_as (y := nI (w * 5)) (pk_mul _ _) ?_
    refine lv_iload_n hx hb dX0_isOutdated_24 rfl (lv_at hl 3 rfl) ?_
    refine lv_iadd hx hb dX0_isOutdated_25 ?_
    refine lv_as (y := nI ((w * 5) + i)) (nI_add _ _) ?_
    refine n_iald hx hb hK hP 7 0 rfl rfl (k := ((w * 5) + i)) (by omega) (Nat.le_of_ble_eq_true rfl) dX0_isOutdated_26 ?_
    refine lv_aload_n hx hb dX0_isOutdated_27 rfl (lv_at hl 0 rfl) ?_
    refine va_get (D := D) (ci := 0) (v := .ref (q 1)) (C := RX0) (T := TX0) (N := 10) hx hb hts hin hown hK hP 0 rfl rfl 0 (by decide) (hts (.fieldLink RX0 9 "SignRail" "shapes" "[I") (by decide +kernel)) (fun _ h9 => h9) rfl dX0_isOutdated_28 ?_
    refine lv_iload_n hx hb dX0_isOutdated_31 rfl (lv_at hl 2 rfl) ?_
    refine lv_iload_n hx hb dX0_isOutdated_32 rfl (lv_at hl 3 rfl) ?_
    refine k_callSi (As := [.int (nI (32768 * k + t)), .int (nI i)]) (rest := [.ref (q 1), .int (ct ((w * 5) + i))]) ⟨hx, hb, hml, hown, hts⟩ (c_X0_glyphAt l t k i (by omega) (by omega) (by omega)) (va_cwS 2 hts gX0_isOutdated_X0_glyphAt rfl rfl rfl (by decide +kernel) ⟨Nat.le_of_ble_eq_true rfl, Nat.le_of_ble_eq_true rfl⟩) k_bl_tt (fun _ _ _ => trivial) rfl hl.1 rfl (Nat.le_of_ble_eq_true rfl) dX0_isOutdated_33 ⟨Nat.zero_le _, Nat.zero_le _⟩ ?_
    refine n_iald hx hb hK hP 1 0 rfl rfl (k := (dg t i)) (dg_lt _ _) (Nat.le_of_ble_eq_true rfl) dX0_isOutdated_36 ?_
    refine lv_icmp_eq (tgt := 42) hx hb dX0_isOutdated_37 (by decide) (fun c_37 => ?_) (fun c_37 => ?_)
    · refine lv_iinc (v := nI (i + 1)) (lv' := [(3, .int (nI (i + 1))), (0, .ref (q 0)), (1, .int (nI w)), (2, .int (nI (32768 * k + t)))]) hx hb dX0_isOutdated_42 hl (k := 3) rfl (nI_inc _) (by decide) rfl (fun ls hl => ?_)
      refine lv_goto (tgt := 9) hx hb dX0_isOutdated_45 (by decide) ?_
      exact ih_9 _ (by omega) ⟨by rw [anyB, hf0_9]; simp [c_37], lv_sub hl [1, 2, 3, 0] rfl⟩
    · refine lv_iconst (v := nI 1) hx hb dX0_isOutdated_40 (by decide) ?_
      exact k_zret hx hb hr hlocks dX0_isOutdated_41 (by rw [anyB_t (i := i) (decide_eq_true c_37) (by omega)]; rfl)
set_option maxHeartbeats 4000000 in
set_option maxRecDepth 100000 in
theorem c_X0_nearestGlyph (l : Launch) (D : va_G) (cI : ClassId) (q : Nat → Nat) (sh sp ld nm tx ds ct : Nat → Int32) (co : Int64) (kg : Int32) (ks : Nat → Int32) (x : Int32) (b : Nat) (hb8 : b ≤ 8) (hsx : S25 x) (hsh : ∀ g, g < 8 → S25 (sh g)) : k_M l yX0_nearestGlyph wsX0_nearestGlyph ({ frames := 2, cells := 0, slots := 0, locals := 41 } : Room) [.ref (q 0), .int x, .int (ix b)] (k_B D (wx cI q sh sp ld nm tx ds ct co kg ks) [(cI, .int)]) (some (.int (nI (nrN (dS sh x) b 8)))) := by
  refine k_head (cc := cX0_nearestGlyph) (maxL := 5) (ret := some .int) [(0, .ref (q 0)), (1, .int x), (2, .int (ix b))] (by decide) rfl (Nat.le_of_ble_eq_true rfl) rfl ?_
  intro p e s m below meth c ls hx hb hr hml hown hts hlocks hname hB hl
  have hown : s.vm.findClass RX0 = some m.cls := hown
  obtain ⟨hP, hK⟩ := hB
  have hin : ∀ w ∈ wsX00, w ∈ wsX0_nearestGlyph := fun w h => List.mem_cons_of_mem _ (List.mem_append_right _ h)
  refine W.joinI (pc2 := 9) (st2 := []) (J := fun v => v = nI (nrS b)) (fun j9 => ?_) (fun v9 hv9 => ?_)
  · refine lv_iload_n hx hb dX0_nearestGlyph_0 rfl (lv_at hl 2 rfl) ?_
    refine lv_if_ne (tgt := 8) hx hb dX0_nearestGlyph_1 (by decide) (fun c_1 => ?_) (fun c_1 => ?_)
    · refine lv_iconst (v := nI 0) hx hb dX0_nearestGlyph_8 (by decide) ?_
      exact j9 _ (by rw [nrS, if_neg (fun q => c_1 ((ix_0 hb8).mpr q))])
    · refine lv_iconst (v := nI 1) hx hb dX0_nearestGlyph_4 (by decide) ?_
      refine lv_goto (tgt := 9) hx hb dX0_nearestGlyph_5 (by decide) ?_
      exact j9 _ (by rw [nrS, if_pos ((ix_0 hb8).mp c_1)])
  · subst hv9
    refine lv_istore_n (lv' := [(3, .int (nI (nrS b))), (0, .ref (q 0)), (1, .int x), (2, .int (ix b))]) hx hb dX0_nearestGlyph_9 rfl hl (by decide) rfl (fun ls hl => ?_)
    refine lv_iload_n hx hb dX0_nearestGlyph_10 rfl (lv_at hl 0 rfl) ?_
    refine lv_iconst (v := nI 1) hx hb dX0_nearestGlyph_11 (by decide) ?_
    refine lv_iadd hx hb dX0_nearestGlyph_12 ?_
    refine lv_as (y := nI ((nrS b) + 1)) (nI_add _ _) ?_
    refine lv_istore (lv' := [(4, .int (nI ((nrS b) + 1))), (3, .int (nI (nrS b))), (0, .ref (q 0)), (1, .int x), (2, .int (ix b))]) hx hb dX0_nearestGlyph_13 hl (by decide) rfl (fun ls hl => ?_)
    refine W.loop (fun i ls => ∃ (n : Nat), (n = nrN (dS sh x) b i) ∧ (n < 8) ∧ lv_has ls 5 [(0, .ref (q 0)), (1, .int x), (2, .int (ix b)), (3, .int (nI n)), (4, .int (nI i))]) (8) (nrS b + 1) (by unfold nrS; split <;> decide) ⟨nrS b, (nr_start _ _).symm, by unfold nrS; split <;> decide, lv_sub hl [2, 3, 4, 1, 0] rfl⟩ ?_
    intro i ls hi_15 hI_15 ih_15
    obtain ⟨n, hf0_15, hf1_15, hl⟩ := hI_15
    refine lv_iload hx hb dX0_nearestGlyph_15 (lv_at hl 4 rfl) ?_
    refine lv_bipush (v := nI 8) hx hb dX0_nearestGlyph_17 (by decide) ?_
    refine n_icmp_ge (tgt := 61) hx hb dX0_nearestGlyph_19 (by decide) (by omega) (by omega) (fun c_19 => ?_) (fun c_19 => ?_)
    · refine lv_iload_n hx hb dX0_nearestGlyph_61 rfl (lv_at hl 3 rfl) ?_
      exact k_iret hx hb hr hlocks dX0_nearestGlyph_62 (by rw [hf0_15, show i = 8 from by omega])
    · refine lv_iload hx hb dX0_nearestGlyph_22 (lv_at hl 4 rfl) ?_
      refine lv_iload_n hx hb dX0_nearestGlyph_24 rfl (lv_at hl 2 rfl) ?_
      refine lv_icmp_eq (tgt := 55) hx hb dX0_nearestGlyph_25 (by decide) (fun c_25 => ?_) (fun c_25 => ?_)
      · refine lv_iinc (v := nI (i + 1)) (lv' := [(4, .int (nI (i + 1))), (0, .ref (q 0)), (1, .int x), (2, .int (ix b)), (3, .int (nI n))]) hx hb dX0_nearestGlyph_55 hl (k := 4) rfl (nI_inc _) (by decide) rfl (fun ls hl => ?_)
        refine lv_goto (tgt := 15) hx hb dX0_nearestGlyph_58 (by decide) ?_
        exact ih_15 _ (by omega) ⟨n, by rw [nr_eq ((ix_eq hb8 c_19).mp c_25)]; exact hf0_15, hf1_15, lv_sub hl [1, 2, 3, 4, 0] rfl⟩
      · refine lv_iload_n hx hb dX0_nearestGlyph_28 rfl (lv_at hl 1 rfl) ?_
        refine lv_aload_n hx hb dX0_nearestGlyph_29 rfl (lv_at hl 0 rfl) ?_
        refine va_get (D := D) (ci := 0) (v := .ref (q 1)) (C := RX0) (T := TX0) (N := 10) hx hb hts hin hown hK hP 0 rfl rfl 0 (by decide) (hts (.fieldLink RX0 9 "SignRail" "shapes" "[I") (by decide +kernel)) (fun _ h9 => h9) rfl dX0_nearestGlyph_30 ?_
        refine lv_iload hx hb dX0_nearestGlyph_33 (lv_at hl 4 rfl) ?_
        refine n_iald hx hb hK hP 1 0 rfl rfl (k := i) (by omega) (Nat.le_of_ble_eq_true rfl) dX0_nearestGlyph_35 ?_
        refine k_callSi (As := [.int x, .int (sh i)]) (rest := []) ⟨hx, hb, hml, hown, hts⟩ (c_X0_differing l x (sh i) hsx (hsh _ (by omega))) (va_cwS 2 hts gX0_nearestGlyph_X0_differing rfl rfl rfl (by decide +kernel) ⟨Nat.le_of_ble_eq_true rfl, Nat.le_of_ble_eq_true rfl⟩) k_bl_tt (fun _ _ _ => trivial) rfl hl.1 rfl (Nat.le_of_ble_eq_true rfl) dX0_nearestGlyph_36 ⟨Nat.zero_le _, Nat.zero_le _⟩ ?_
        refine lv_iload_n hx hb dX0_nearestGlyph_39 rfl (lv_at hl 1 rfl) ?_
        refine lv_aload_n hx hb dX0_nearestGlyph_40 rfl (lv_at hl 0 rfl) ?_
        refine va_get (D := D) (ci := 0) (v := .ref (q 1)) (C := RX0) (T := TX0) (N := 10) hx hb hts hin hown hK hP 0 rfl rfl 0 (by decide) (hts (.fieldLink RX0 9 "SignRail" "shapes" "[I") (by decide +kernel)) (fun _ h9 => h9) rfl dX0_nearestGlyph_41 ?_
        refine lv_iload_n hx hb dX0_nearestGlyph_44 rfl (lv_at hl 3 rfl) ?_
        refine n_iald hx hb hK hP 1 0 rfl rfl (k := n) (by omega) (Nat.le_of_ble_eq_true rfl) dX0_nearestGlyph_45 ?_
        refine k_callSi (As := [.int x, .int (sh n)]) (rest := [.int (df x (sh i))]) ⟨hx, hb, hml, hown, hts⟩ (c_X0_differing l x (sh n) hsx (hsh _ (by omega))) (va_cwS 2 hts gX0_nearestGlyph_X0_differing rfl rfl rfl (by decide +kernel) ⟨Nat.le_of_ble_eq_true rfl, Nat.le_of_ble_eq_true rfl⟩) k_bl_tt (fun _ _ _ => trivial) rfl hl.1 rfl (Nat.le_of_ble_eq_true rfl) dX0_nearestGlyph_46 ⟨Nat.zero_le _, Nat.zero_le _⟩ ?_
        refine lv_icmp_ge (tgt := 55) hx hb dX0_nearestGlyph_49 (by decide) (fun c_49 => ?_) (fun c_49 => ?_)
        · refine lv_iinc (v := nI (i + 1)) (lv' := [(4, .int (nI (i + 1))), (0, .ref (q 0)), (1, .int x), (2, .int (ix b)), (3, .int (nI n))]) hx hb dX0_nearestGlyph_55 hl (k := 4) rfl (nI_inc _) (by decide) rfl (fun ls hl => ?_)
          refine lv_goto (tgt := 15) hx hb dX0_nearestGlyph_58 (by decide) ?_
          exact ih_15 _ (by omega) ⟨n, nr_ge hf0_15 hf1_15 (le_nlt c_49), hf1_15, lv_sub hl [1, 2, 3, 4, 0] rfl⟩
        · refine lv_iload hx hb dX0_nearestGlyph_52 (lv_at hl 4 rfl) ?_
          refine lv_istore_n (lv' := [(3, .int (nI i)), (0, .ref (q 0)), (1, .int x), (2, .int (ix b)), (4, .int (nI i))]) hx hb dX0_nearestGlyph_54 rfl hl (by decide) rfl (fun ls hl => ?_)
          refine lv_iinc (v := nI (i + 1)) (lv' := [(4, .int (nI (i + 1))), (3, .int (nI i)), (0, .ref (q 0)), (1, .int x), (2, .int (ix b))]) hx hb dX0_nearestGlyph_55 hl (k := 4) rfl (nI_inc _) (by decide) rfl (fun ls hl => ?_)
          refine lv_goto (tgt := 15) hx hb dX0_nearestGlyph_58 (by decide) ?_
          exact ih_15 _ (by omega) ⟨i, nr_lt (fun q => c_25 ((ix_eq hb8 c_19).mpr q)) hf0_15 (fa_of_nle c_49), c_19, lv_sub hl [2, 3, 4, 1, 0] rfl⟩
set_option maxHeartbeats 4000000 in
set_option maxRecDepth 100000 in
theorem c_X0_readGlyph (l : Launch) (D : va_G) (cI : ClassId) (q : Nat → Nat) (sh sp ld nm tx ds ct : Nat → Int32) (co : Int64) (kg : Int32) (ks : Nat → Int32) (x d0 : Int32) (hsx : S25 x) (hsh : ∀ g, g < 8 → S25 (sh g)) : k_M l yX0_readGlyph wsX0_readGlyph ({ frames := 3, cells := 0, slots := 0, locals := 65 } : Room) [.ref (q 0), .int x, .int d0] (k_B D (wx cI q sh sp ld nm tx ds ct co kg ks) [(cI, .int)]) (some (.int (nI (rdG (dS sh x) d0)))) := by
  refine k_head (cc := cX0_readGlyph) (maxL := 6) (ret := some .int) [(0, .ref (q 0)), (1, .int x), (2, .int d0)] (by decide) rfl (Nat.le_of_ble_eq_true rfl) rfl ?_
  intro p e s m below meth c ls hx hb hr hml hown hts hlocks hname hB hl
  have hown : s.vm.findClass RX0 = some m.cls := hown
  obtain ⟨hP, hK⟩ := hB
  have hin : ∀ w ∈ wsX00, w ∈ wsX0_readGlyph := fun w h => List.mem_cons_of_mem _ (List.mem_append_right _ h)
  refine lv_aload_n hx hb dX0_readGlyph_0 rfl (lv_at hl 0 rfl) ?_
  refine lv_iload_n hx hb dX0_readGlyph_1 rfl (lv_at hl 1 rfl) ?_
  refine lv_iconst (v := (-1)) hx hb dX0_readGlyph_2 (by decide) ?_
  refine k_callVi (As := [.int x, .int (-1)]) (rest := []) ⟨hx, hb, hml, hown, hts⟩ (c_X0_nearestGlyph l D cI q sh sp ld nm tx ds ct co kg ks x 8 (Nat.le_refl 8) hsx hsh) (cwV 2 hts gX0_readGlyph_X0_nearestGlyph rfl rfl rfl (by decide +kernel) ⟨Nat.le_of_ble_eq_true rfl, Nat.le_of_ble_eq_true rfl⟩) k_B_bl (k_B_of hP hK) (va_recv hK hP (ci := 0) (q0 := 0) rfl rfl) rfl hl.1 rfl (Nat.le_of_ble_eq_true rfl) dX0_readGlyph_3 ⟨Nat.zero_le _, Nat.zero_le _⟩ ?_
  refine lv_istore_n (lv' := [(3, .int (nI (nrN (dS sh x) 8 8))), (0, .ref (q 0)), (1, .int x), (2, .int d0)]) hx hb dX0_readGlyph_6 rfl hl (by decide) rfl (fun ls hl => ?_)
  refine lv_aload_n hx hb dX0_readGlyph_7 rfl (lv_at hl 1 rfl) ?_
  refine lv_iload_n hx hb dX0_readGlyph_8 rfl (lv_at hl 2 rfl) ?_
  refine lv_iload_n hx hb dX0_readGlyph_9 rfl (lv_at hl 0 rfl) ?_
  refine lv_as (y := ix (nrN (dS sh x) 8 8)) ((ix_lt (nr_lt8 _ _)).symm) ?_
  refine k_callVi (As := [.int x, .int (ix (nrN (dS sh x) 8 8))]) (rest := []) ⟨hx, hb, hml, hown, hts⟩ (c_X0_nearestGlyph l D cI q sh sp ld nm tx ds ct co kg ks x (nrN (dS sh x) 8 8) (Nat.le_of_lt (nr_lt8 _ _)) hsx hsh) (cwV 2 hts gX0_readGlyph_X0_nearestGlyph rfl rfl rfl (by decide +kernel) ⟨Nat.le_of_ble_eq_true rfl, Nat.le_of_ble_eq_true rfl⟩) k_B_bl (k_B_of hP hK) (va_recv hK hP (ci := 0) (q0 := 0) rfl rfl) rfl hl.1 rfl (Nat.le_of_ble_eq_true rfl) dX0_readGlyph_10 ⟨Nat.zero_le _, Nat.zero_le _⟩ ?_
  refine lv_istore (lv' := [(4, .int (nI (nrN (dS sh x) (nrN (dS sh x) 8 8) 8))), (3, .int (nI (nrN (dS sh x) 8 8))), (0, .ref (q 0)), (1, .int x), (2, .int d0)]) hx hb dX0_readGlyph_13 hl (by decide) rfl (fun ls hl => ?_)
  refine lv_iload_n hx hb dX0_readGlyph_15 rfl (lv_at hl 3 rfl) ?_
  refine lv_aload_n hx hb dX0_readGlyph_16 rfl (lv_at hl 2 rfl) ?_
  refine va_get (D := D) (ci := 0) (v := .ref (q 1)) (C := RX0) (T := TX0) (N := 10) hx hb hts hin hown hK hP 0 rfl rfl 0 (by decide) (hts (.fieldLink RX0 9 "SignRail" "shapes" "[I") (by decide +kernel)) (fun _ h9 => h9) rfl dX0_readGlyph_17 ?_
  refine lv_iload hx hb dX0_readGlyph_20 (lv_at hl 0 rfl) ?_
  refine n_iald hx hb hK hP 1 0 rfl rfl (k := (nrN (dS sh x) (nrN (dS sh x) 8 8) 8)) (nr_lt8 _ _) (Nat.le_of_ble_eq_true rfl) dX0_readGlyph_22 ?_
  refine k_callSi (As := [.int x, .int (sh (nrN (dS sh x) (nrN (dS sh x) 8 8) 8))]) (rest := []) ⟨hx, hb, hml, hown, hts⟩ (c_X0_differing l x (sh (nrN (dS sh x) (nrN (dS sh x) 8 8) 8)) hsx (hsh _ (nr_lt8 _ _))) (va_cwS 2 hts gX0_readGlyph_X0_differing rfl rfl rfl (by decide +kernel) ⟨Nat.le_of_ble_eq_true rfl, Nat.le_of_ble_eq_true rfl⟩) k_bl_tt (fun _ _ _ => trivial) rfl hl.1 rfl (Nat.le_of_ble_eq_true rfl) dX0_readGlyph_23 ⟨Nat.zero_le _, Nat.zero_le _⟩ ?_
  refine lv_iload_n hx hb dX0_readGlyph_26 rfl (lv_at hl 3 rfl) ?_
  refine lv_aload_n hx hb dX0_readGlyph_27 rfl (lv_at hl 2 rfl) ?_
  refine va_get (D := D) (ci := 0) (v := .ref (q 1)) (C := RX0) (T := TX0) (N := 10) hx hb hts hin hown hK hP 0 rfl rfl 0 (by decide) (hts (.fieldLink RX0 9 "SignRail" "shapes" "[I") (by decide +kernel)) (fun _ h9 => h9) rfl dX0_readGlyph_28 ?_
  refine lv_iload_n hx hb dX0_readGlyph_31 rfl (lv_at hl 1 rfl) ?_
  refine n_iald hx hb hK hP 1 0 rfl rfl (k := (nrN (dS sh x) 8 8)) (nr_lt8 _ _) (Nat.le_of_ble_eq_true rfl) dX0_readGlyph_32 ?_
  refine k_callSi (As := [.int x, .int (sh (nrN (dS sh x) 8 8))]) (rest := [.int (df x (sh (nrN (dS sh x) (nrN (dS sh x) 8 8) 8)))]) ⟨hx, hb, hml, hown, hts⟩ (c_X0_differing l x (sh (nrN (dS sh x) 8 8)) hsx (hsh _ (nr_lt8 _ _))) (va_cwS 2 hts gX0_readGlyph_X0_differing rfl rfl rfl (by decide +kernel) ⟨Nat.le_of_ble_eq_true rfl, Nat.le_of_ble_eq_true rfl⟩) k_bl_tt (fun _ _ _ => trivial) rfl hl.1 rfl (Nat.le_of_ble_eq_true rfl) dX0_readGlyph_33 ⟨Nat.zero_le _, Nat.zero_le _⟩ ?_
  refine lv_isub hx hb dX0_readGlyph_36 ?_
  refine lv_istore (lv' := [(5, .int ((df x (sh (nrN (dS sh x) (nrN (dS sh x) 8 8) 8))) - (df x (sh (nrN (dS sh x) 8 8))))), (4, .int (nI (nrN (dS sh x) (nrN (dS sh x) 8 8) 8))), (3, .int (nI (nrN (dS sh x) 8 8))), (0, .ref (q 0)), (1, .int x), (2, .int d0)]) hx hb dX0_readGlyph_37 hl (by decide) rfl (fun ls hl => ?_)
  refine lv_iload hx hb dX0_readGlyph_39 (lv_at hl 0 rfl) ?_
  refine lv_iload_n hx hb dX0_readGlyph_41 rfl (lv_at hl 5 rfl) ?_
  refine lv_icmp_lt (tgt := 49) hx hb dX0_readGlyph_42 (by decide) (fun c_42 => ?_) (fun c_42 => ?_)
  · refine lv_iload hx hb dX0_readGlyph_49 (lv_at hl 1 rfl) ?_
    exact k_iret hx hb hr hlocks dX0_readGlyph_51 (congrArg nI (if_pos c_42).symm)
  · refine lv_iload_n hx hb dX0_readGlyph_45 rfl (lv_at hl 2 rfl) ?_
    refine lv_goto (tgt := 51) hx hb dX0_readGlyph_46 (by decide) ?_
    exact k_iret hx hb hr hlocks dX0_readGlyph_51 (congrArg nI (if_neg c_42).symm)
set_option maxHeartbeats 4000000 in
set_option maxRecDepth 100000 in
theorem c_X0_readText (l : Launch) (D : va_G) (cI : ClassId) (q : Nat → Nat) (sh sp ld nm tx ds ct : Nat → Int32) (co : Int64) (kg : Int32) (ks : Nat → Int32) (w t k : Nat) (hw : w < 32) (ht : t < 32768) (hk : k ≤ 5) (htx : tx w = nI (32768 * k + t)) (hsh : ∀ g, g < 8 → S25 (sh g)) (hct : ∀ j, j < k → S25 (ct (w * 5 + j))) : k_M l yX0_readText wsX0_readText ({ frames := 4, cells := 0, slots := 0, locals := 90 } : Room) [.ref (q 0), .int (nI w)] (k_B D (wx cI q sh sp ld nm tx ds ct co kg ks) [(cI, .int)]) (some (.int (nI (32768 * k + rtN (rdS sh ct ds w) k)))) := by
  refine k_head (cc := cX0_readText) (maxL := 6) (ret := some .int) [(0, .ref (q 0)), (1, .int (nI w))] (by decide) rfl (Nat.le_of_ble_eq_true rfl) rfl ?_
  intro p e s m below meth c ls hx hb hr hml hown hts hlocks hname hB hl
  have hown : s.vm.findClass RX0 = some m.cls := hown
  obtain ⟨hP, hK⟩ := hB
  have hin : ∀ w ∈ wsX00, w ∈ wsX0_readText := fun w h => List.mem_cons_of_mem _ (List.mem_append_right _ h)
  refine lv_aload_n hx hb dX0_readText_0 rfl (lv_at hl 0 rfl) ?_
  refine va_get (D := D) (ci := 0) (v := .ref (q 5)) (C := RX0) (T := TX0) (N := 10) hx hb hts hin hown hK hP 0 rfl rfl 4 (by decide) (hts (.fieldLink RX0 22 "SignRail" "signTexts" "[I") (by decide +kernel)) (fun _ h9 => h9) rfl dX0_readText_1 ?_
  refine lv_iload_n hx hb dX0_readText_4 rfl (lv_at hl 1 rfl) ?_
  refine n_iald hx hb hK hP 5 0 rfl rfl (k := w) (by omega) (Nat.le_of_ble_eq_true rfl) dX0_readText_5 ?_
  refine lv_as (y := nI (32768 * k + t)) (htx) ?_
  refine k_callSi (As := [.int (nI (32768 * k + t))]) (rest := []) ⟨hx, hb, hml, hown, hts⟩ (c_X0_manyOf l t k (by omega) (by omega)) (va_cwS 1 hts gX0_readText_X0_manyOf rfl rfl rfl (by decide +kernel) ⟨Nat.le_of_ble_eq_true rfl, Nat.le_of_ble_eq_true rfl⟩) k_bl_tt (fun _ _ _ => trivial) rfl hl.1 rfl (Nat.le_of_ble_eq_true rfl) dX0_readText_6 ⟨Nat.zero_le _, Nat.zero_le _⟩ ?_
  refine lv_istore_n (lv' := [(2, .int (nI k)), (0, .ref (q 0)), (1, .int (nI w))]) hx hb dX0_readText_9 rfl hl (by decide) rfl (fun ls hl => ?_)
  refine lv_iconst (v := nI 0) hx hb dX0_readText_10 (by decide) ?_
  refine lv_istore_n (lv' := [(3, .int (nI 0)), (2, .int (nI k)), (0, .ref (q 0)), (1, .int (nI w))]) hx hb dX0_readText_11 rfl hl (by decide) rfl (fun ls hl => ?_)
  refine lv_iconst (v := nI 0) hx hb dX0_readText_12 (by decide) ?_
  refine lv_istore (lv' := [(4, .int (nI 0)), (3, .int (nI 0)), (2, .int (nI k)), (0, .ref (q 0)), (1, .int (nI w))]) hx hb dX0_readText_13 hl (by decide) rfl (fun ls hl => ?_)
  refine W.loop (fun i ls => lv_has ls 6 [(0, .ref (q 0)), (1, .int (nI w)), (2, .int (nI k)), (3, .int (nI (rtN (rdS sh ct ds w) i))), (4, .int (nI i))]) (k) (0) (by omega) (lv_sub hl [3, 4, 2, 1, 0] rfl) ?_
  intro i ls hi_15 hI_15 ih_15
  have hl := hI_15
  refine lv_iload hx hb dX0_readText_15 (lv_at hl 4 rfl) ?_
  refine lv_iload_n hx hb dX0_readText_17 rfl (lv_at hl 2 rfl) ?_
  refine n_icmp_ge (tgt := 60) hx hb dX0_readText_18 (by decide) (by omega) (by omega) (fun c_18 => ?_) (fun c_18 => ?_)
  · have hrt := rtN_lt (r := rdS sh ct ds w) (fun _ => rdG_lt _ _) i
    have hp8 := p8_le (k := i) (by omega)
    refine lv_iload_n hx hb dX0_readText_60 rfl (lv_at hl 3 rfl) ?_
    refine lv_iload_n hx hb dX0_readText_61 rfl (lv_at hl 2 rfl) ?_
    refine k_callSi (As := [.int (nI (rtN (rdS sh ct ds w) i)), .int (nI k)]) (rest := []) ⟨hx, hb, hml, hown, hts⟩ (c_X0_pack l (rtN (rdS sh ct ds w) i) k (by omega) (by omega)) (va_cwS 2 hts gX0_readText_X0_pack rfl rfl rfl (by decide +kernel) ⟨Nat.le_of_ble_eq_true rfl, Nat.le_of_ble_eq_true rfl⟩) k_bl_tt (fun _ _ _ => trivial) rfl hl.1 rfl (Nat.le_of_ble_eq_true rfl) dX0_readText_62 ⟨Nat.zero_le _, Nat.zero_le _⟩ ?_
    exact k_iret hx hb hr hlocks dX0_readText_65 (by rw [show i = k from by omega])
  · refine lv_aload_n hx hb dX0_readText_21 rfl (lv_at hl 0 rfl) ?_
    refine lv_aload_n hx hb dX0_readText_22 rfl (lv_at hl 0 rfl) ?_
    refine va_get (D := D) (ci := 0) (v := .ref (q 7)) (C := RX0) (T := TX0) (N := 10) hx hb hts hin hown hK hP 0 rfl rfl 6 (by decide) (hts (.fieldLink RX0 28 "SignRail" "signShapes" "[I") (by decide +kernel)) (fun _ h9 => h9) rfl dX0_readText_23 ?_
    refine lv_iload_n hx hb dX0_readText_26 rfl (lv_at hl 1 rfl) ?_
    refine lv_iconst (v := nI 5) hx hb dX0_readText_27 (by decide) ?_
    refine lv_imul hx hb dX0_readText_28 ?_
    refine lv_as (y := nI (w * 5)) (pk_mul _ _) ?_
    refine lv_iload hx hb dX0_readText_29 (lv_at hl 4 rfl) ?_
    refine lv_iadd hx hb dX0_readText_31 ?_
    refine lv_as (y := nI ((w * 5) + i)) (nI_add _ _) ?_
    refine n_iald hx hb hK hP 7 0 rfl rfl (k := ((w * 5) + i)) (by omega) (Nat.le_of_ble_eq_true rfl) dX0_readText_32 ?_
    refine lv_aload_n hx hb dX0_readText_33 rfl (lv_at hl 0 rfl) ?_
    refine va_get (D := D) (ci := 0) (v := .ref (q 6)) (C := RX0) (T := TX0) (N := 10) hx hb hts hin hown hK hP 0 rfl rfl 5 (by decide) (hts (.fieldLink RX0 25 "SignRail" "signDistances" "[I") (by decide +kernel)) (fun _ h9 => h9) rfl dX0_readText_34 ?_
    refine lv_iload_n hx hb dX0_readText_37 rfl (lv_at hl 1 rfl) ?_
    refine n_iald hx hb hK hP 6 0 rfl rfl (k := w) (by omega) (Nat.le_of_ble_eq_true rfl) dX0_readText_38 ?_
    refine k_callVi (As := [.int (ct ((w * 5) + i)), .int (ds w)]) (rest := []) ⟨hx, hb, hml, hown, hts⟩ (c_X0_readGlyph l D cI q sh sp ld nm tx ds ct co kg ks (ct ((w * 5) + i)) (ds w) (hct i (by omega)) hsh) (cwV 2 hts gX0_readText_X0_readGlyph rfl rfl rfl (by decide +kernel) ⟨Nat.le_of_ble_eq_true rfl, Nat.le_of_ble_eq_true rfl⟩) k_B_bl (k_B_of hP hK) (va_recv hK hP (ci := 0) (q0 := 0) rfl rfl) rfl hl.1 rfl (Nat.le_of_ble_eq_true rfl) dX0_readText_39 ⟨Nat.zero_le _, Nat.zero_le _⟩ ?_
    refine lv_istore (lv' := [(5, .int (nI (rdG (dS sh (ct ((w * 5) + i))) (ds w)))), (0, .ref (q 0)), (1, .int (nI w)), (2, .int (nI k)), (3, .int (nI (rtN (rdS sh ct ds w) i))), (4, .int (nI i))]) hx hb dX0_readText_42 hl (by decide) rfl (fun ls hl => ?_)
    refine lv_iload_n hx hb dX0_readText_44 rfl (lv_at hl 4 rfl) ?_
    refine lv_iload hx hb dX0_readText_45 (lv_at hl 0 rfl) ?_
    refine lv_iconst (v := nI 3) hx hb dX0_readText_47 (by decide) ?_
    refine lv_iload hx hb dX0_readText_48 (lv_at hl 5 rfl) ?_
    refine lv_imul hx hb dX0_readText_50 ?_
    refine lv_as (y := nI (3 * i)) (pk_mul _ _) ?_
    refine lv_ishl hx hb dX0_readText_51 ?_
    refine lv_ior hx hb dX0_readText_52 ?_
    refine lv_as (y := nI (rtN (rdS sh ct ds w) (i + 1))) (rt_or (rtN_lt (fun _ => rdG_lt _ _) _) (rdG_lt _ _) (by omega)) ?_
    refine lv_istore_n (lv' := [(3, .int (nI (rtN (rdS sh ct ds w) (i + 1)))), (5, .int (nI (rdG (dS sh (ct ((w * 5) + i))) (ds w)))), (0, .ref (q 0)), (1, .int (nI w)), (2, .int (nI k)), (4, .int (nI i))]) hx hb dX0_readText_53 rfl hl (by decide) rfl (fun ls hl => ?_)
    refine lv_iinc (v := nI (i + 1)) (lv' := [(4, .int (nI (i + 1))), (3, .int (nI (rtN (rdS sh ct ds w) (i + 1)))), (5, .int (nI (rdG (dS sh (ct ((w * 5) + i))) (ds w)))), (0, .ref (q 0)), (1, .int (nI w)), (2, .int (nI k))]) hx hb dX0_readText_54 hl (k := 5) rfl (nI_inc _) (by decide) rfl (fun ls hl => ?_)
    refine lv_goto (tgt := 15) hx hb dX0_readText_57 (by decide) ?_
    exact ih_15 _ (by omega) (lv_sub hl [3, 4, 5, 1, 0] rfl)
set_option maxHeartbeats 4000000 in
set_option maxRecDepth 100000 in
theorem c_X0_isReadAs (l : Launch) (D : va_G) (cI : ClassId) (q : Nat → Nat) (sh sp ld nm tx ds ct : Nat → Int32) (co : Int64) (kg : Int32) (ks : Nat → Int32) (w t k : Nat) (hw : w < 32) (ht : t < 32768) (hk : k ≤ 5) (htx : tx w = nI (32768 * k + t)) (gt gk : Nat) (hgt : gt < 32768) (hgk : gk ≤ 5) (hsh : ∀ g, g < 8 → S25 (sh g)) (hct : ∀ j, j < k → S25 (ct (w * 5 + j))) : k_M l yX0_isReadAs wsX0_isReadAs ({ frames := 5, cells := 0, slots := 0, locals := 115 } : Room) [.ref (q 0), .int (nI w), .int (nI (32768 * gk + gt))] (k_B D (wx cI q sh sp ld nm tx ds ct co kg ks) [(cI, .int)]) (some (.int (bI (rdas sh ct ds w k gk gt)))) := by
  refine k_head (cc := cX0_isReadAs) (maxL := 3) (ret := some .boolean) [(0, .ref (q 0)), (1, .int (nI w)), (2, .int (nI (32768 * gk + gt)))] (by decide) rfl (Nat.le_of_ble_eq_true rfl) rfl ?_
  intro p e s m below meth c ls hx hb hr hml hown hts hlocks hname hB hl
  have hown : s.vm.findClass RX0 = some m.cls := hown
  obtain ⟨hP, hK⟩ := hB
  have hin : ∀ w ∈ wsX00, w ∈ wsX0_isReadAs := fun w h => List.mem_cons_of_mem _ (List.mem_append_right _ h)
  refine lv_aload_n hx hb dX0_isReadAs_0 rfl (lv_at hl 0 rfl) ?_
  refine va_get (D := D) (ci := 0) (v := .ref (q 5)) (C := RX0) (T := TX0) (N := 10) hx hb hts hin hown hK hP 0 rfl rfl 4 (by decide) (hts (.fieldLink RX0 22 "SignRail" "signTexts" "[I") (by decide +kernel)) (fun _ h9 => h9) rfl dX0_isReadAs_1 ?_
  refine lv_iload_n hx hb dX0_isReadAs_4 rfl (lv_at hl 1 rfl) ?_
  refine n_iald hx hb hK hP 5 0 rfl rfl (k := w) (by omega) (Nat.le_of_ble_eq_true rfl) dX0_isReadAs_5 ?_
  refine lv_as (y := nI (32768 * k + t)) (htx) ?_
  refine k_callSi (As := [.int (nI (32768 * k + t))]) (rest := []) ⟨hx, hb, hml, hown, hts⟩ (c_X0_manyOf l t k (by omega) (by omega)) (va_cwS 1 hts gX0_isReadAs_X0_manyOf rfl rfl rfl (by decide +kernel) ⟨Nat.le_of_ble_eq_true rfl, Nat.le_of_ble_eq_true rfl⟩) k_bl_tt (fun _ _ _ => trivial) rfl hl.1 rfl (Nat.le_of_ble_eq_true rfl) dX0_isReadAs_6 ⟨Nat.zero_le _, Nat.zero_le _⟩ ?_
  refine lv_iload_n hx hb dX0_isReadAs_9 rfl (lv_at hl 2 rfl) ?_
  refine k_callSi (As := [.int (nI (32768 * gk + gt))]) (rest := [.int (nI k)]) ⟨hx, hb, hml, hown, hts⟩ (c_X0_manyOf l gt gk (by omega) (by omega)) (va_cwS 1 hts gX0_isReadAs_X0_manyOf rfl rfl rfl (by decide +kernel) ⟨Nat.le_of_ble_eq_true rfl, Nat.le_of_ble_eq_true rfl⟩) k_bl_tt (fun _ _ _ => trivial) rfl hl.1 rfl (Nat.le_of_ble_eq_true rfl) dX0_isReadAs_10 ⟨Nat.zero_le _, Nat.zero_le _⟩ ?_
  refine n_icmp_ne (tgt := 29) hx hb dX0_isReadAs_13 (by decide) (by omega) (by omega) (fun c_13 => ?_) (fun c_13 => ?_)
  · refine lv_iconst (v := nI 0) hx hb dX0_isReadAs_29 (by decide) ?_
    exact k_zret hx hb hr hlocks dX0_isReadAs_30 (by first | (rw [rdas, decide_eq_false (fun q => c_13 q.1)]; rfl) | (rw [rdas, decide_eq_false (fun q => c_22 (by have h1 := q.1; have h2 := q.2; omega))]; rfl))
  · have hrt := rtN_lt (r := rdS sh ct ds w) (fun _ => rdG_lt _ _) k
    have hp8 := p8_le (k := k) hk
    refine lv_aload_n hx hb dX0_isReadAs_16 rfl (lv_at hl 0 rfl) ?_
    refine lv_iload_n hx hb dX0_isReadAs_17 rfl (lv_at hl 1 rfl) ?_
    refine k_callVi (As := [.int (nI w)]) (rest := []) ⟨hx, hb, hml, hown, hts⟩ (c_X0_readText l D cI q sh sp ld nm tx ds ct co kg ks w t k hw ht hk htx hsh hct) (cwV 1 hts gX0_isReadAs_X0_readText rfl rfl rfl (by decide +kernel) ⟨Nat.le_of_ble_eq_true rfl, Nat.le_of_ble_eq_true rfl⟩) k_B_bl (k_B_of hP hK) (va_recv hK hP (ci := 0) (q0 := 0) rfl rfl) rfl hl.1 rfl (Nat.le_of_ble_eq_true rfl) dX0_isReadAs_18 ⟨Nat.zero_le _, Nat.zero_le _⟩ ?_
    refine lv_iload_n hx hb dX0_isReadAs_21 rfl (lv_at hl 2 rfl) ?_
    refine n_icmp_ne (tgt := 29) hx hb dX0_isReadAs_22 (by decide) (by omega) (by omega) (fun c_22 => ?_) (fun c_22 => ?_)
    · refine lv_iconst (v := nI 0) hx hb dX0_isReadAs_29 (by decide) ?_
      exact k_zret hx hb hr hlocks dX0_isReadAs_30 (by first | (rw [rdas, decide_eq_false (fun q => c_13 q.1)]; rfl) | (rw [rdas, decide_eq_false (fun q => c_22 (by have h1 := q.1; have h2 := q.2; omega))]; rfl))
    · refine lv_iconst (v := nI 1) hx hb dX0_isReadAs_25 (by decide) ?_
      refine lv_goto (tgt := 30) hx hb dX0_isReadAs_26 (by decide) ?_
      exact k_zret hx hb hr hlocks dX0_isReadAs_30 (by rw [rdas, decide_eq_true ⟨c_13, by omega⟩]; rfl)
set_option maxHeartbeats 4000000 in
set_option maxRecDepth 100000 in
theorem c_X0_nextWay (l : Launch) (D : va_G) (cI : ClassId) (q : Nat → Nat) (sh sp ld nm tx ds ct : Nat → Int32) (co : Int64) (kg : Int32) (ks : Nat → Int32) (p0 : Nat) (hp : p0 < 8) (gt gk : Nat) (hgt : gt < 32768) (hgk : gk ≤ 5) (tki : Int32) (tk : Nat → Bool) (hTk : tkR tki tk) (T K Ld : Nat → Nat) (hS : ∀ w, w < 32 → T w < 32768 ∧ K w ≤ 5 ∧ tx w = nI (32768 * K w + T w) ∧ ∀ j, j < K w → S25 (ct (w * 5 + j))) (hL : ∀ w, w < 32 → Ld w ≤ 8 ∧ ld w = ix (Ld w)) (hsh : ∀ g, g < 8 → S25 (sh g)) : k_M l yX0_nextWay wsX0_nextWay ({ frames := 6, cells := 0, slots := 0, locals := 137 } : Room) [.ref (q 0), .int (nI p0), .int (nI (32768 * gk + gt)), .int tki] (k_B D (wx cI q sh sp ld nm tx ds ct co kg ks) [(cI, .int)]) (some (.int (wv p0 (nx (toldC sh ct ds K gk gt) Ld tk p0)))) := by
  refine k_head (cc := cX0_nextWay) (maxL := 7) (ret := some .int) [(0, .ref (q 0)), (1, .int (nI p0)), (2, .int (nI (32768 * gk + gt))), (3, .int tki)] (by decide) rfl (Nat.le_of_ble_eq_true rfl) rfl ?_
  intro p e s m below meth c ls hx hb hr hml hown hts hlocks hname hB hl
  have hown : s.vm.findClass RX0 = some m.cls := hown
  obtain ⟨hP, hK⟩ := hB
  have hin : ∀ w ∈ wsX00, w ∈ wsX0_nextWay := fun w h => List.mem_cons_of_mem _ (List.mem_append_right _ h)
  refine lv_iconst (v := (-1)) hx hb dX0_nextWay_0 (by decide) ?_
  refine lv_istore (lv' := [(4, .int (-1)), (0, .ref (q 0)), (1, .int (nI p0)), (2, .int (nI (32768 * gk + gt))), (3, .int tki)]) hx hb dX0_nextWay_1 hl (by decide) rfl (fun ls hl => ?_)
  refine lv_iconst (v := nI 0) hx hb dX0_nextWay_3 (by decide) ?_
  refine lv_istore (lv' := [(5, .int (nI 0)), (4, .int (-1)), (0, .ref (q 0)), (1, .int (nI p0)), (2, .int (nI (32768 * gk + gt))), (3, .int tki)]) hx hb dX0_nextWay_4 hl (by decide) rfl (fun ls hl => ?_)
  refine W.loop (fun i ls => ∃ (u : Int32), (fb (fun e => decide (Ld (4 * p0 + e) ≠ 8) && (toldC sh ct ds K gk gt) (4 * p0 + e)) i = 4) ∧ (u = wv p0 (fb (fun e => decide (Ld (4 * p0 + e) ≠ 8) && !tk (4 * p0 + e)) i)) ∧ lv_has ls 7 [(0, .ref (q 0)), (1, .int (nI p0)), (2, .int (nI (32768 * gk + gt))), (3, .int tki), (4, .int u), (5, .int (nI i))]) (4) (0) (by omega) ⟨(-1), rfl, rfl, lv_sub hl [2, 3, 4, 5, 1, 0] rfl⟩ ?_
  intro i ls hi_6 hI_6 ih_6
  obtain ⟨u, hf0_6, hf1_6, hl⟩ := hI_6
  refine lv_iload hx hb dX0_nextWay_6 (lv_at hl 5 rfl) ?_
  refine lv_iconst (v := nI 4) hx hb dX0_nextWay_8 (by decide) ?_
  refine n_icmp_ge (tgt := 69) hx hb dX0_nextWay_9 (by decide) (by omega) (by omega) (fun c_9 => ?_) (fun c_9 => ?_)
  · refine lv_iload hx hb dX0_nextWay_69 (lv_at hl 4 rfl) ?_
    exact k_iret hx hb hr hlocks dX0_nextWay_71 (by rw [show i = 4 from by omega] at hf0_6 hf1_6; rw [nx, nx_n hf0_6]; exact hf1_6)
  · refine lv_iload_n hx hb dX0_nextWay_12 rfl (lv_at hl 1 rfl) ?_
    refine lv_iload hx hb dX0_nextWay_13 (lv_at hl 5 rfl) ?_
    refine k_callSi (As := [.int (nI p0), .int (nI i)]) (rest := []) ⟨hx, hb, hml, hown, hts⟩ (c_X0_wayOf l p0 i) (va_cwS 2 hts gX0_nextWay_X0_wayOf rfl rfl rfl (by decide +kernel) ⟨Nat.le_of_ble_eq_true rfl, Nat.le_of_ble_eq_true rfl⟩) k_bl_tt (fun _ _ _ => trivial) rfl hl.1 rfl (Nat.le_of_ble_eq_true rfl) dX0_nextWay_15 ⟨Nat.zero_le _, Nat.zero_le _⟩ ?_
    refine lv_as (y := nI (4 * p0 + i)) (by rw [Nat.mul_comm p0 4]) ?_
    refine lv_istore (lv' := [(6, .int (nI (4 * p0 + i))), (0, .ref (q 0)), (1, .int (nI p0)), (2, .int (nI (32768 * gk + gt))), (3, .int tki), (4, .int u), (5, .int (nI i))]) hx hb dX0_nextWay_18 hl (by decide) rfl (fun ls hl => ?_)
    refine lv_aload_n hx hb dX0_nextWay_20 rfl (lv_at hl 1 rfl) ?_
    refine va_get (D := D) (ci := 0) (v := .ref (q 3)) (C := RX0) (T := TX0) (N := 10) hx hb hts hin hown hK hP 0 rfl rfl 2 (by decide) (hts (.fieldLink RX0 16 "SignRail" "leads" "[I") (by decide +kernel)) (fun _ h9 => h9) rfl dX0_nextWay_21 ?_
    refine lv_iload hx hb dX0_nextWay_24 (lv_at hl 0 rfl) ?_
    refine n_iald hx hb hK hP 3 0 rfl rfl (k := (4 * p0 + i)) (by omega) (Nat.le_of_ble_eq_true rfl) dX0_nextWay_26 ?_
    refine lv_as (y := ix (Ld (4 * p0 + i))) ((hL _ (by omega)).2) ?_
    refine lv_iconst (v := (-1)) hx hb dX0_nextWay_27 (by decide) ?_
    refine lv_icmp_eq (tgt := 63) hx hb dX0_nextWay_28 (by decide) (fun c_28 => ?_) (fun c_28 => ?_)
    · have hl8 := (ix_m1 (hL _ (by omega)).1).mp c_28
      refine lv_iinc (v := nI (i + 1)) (lv' := [(5, .int (nI (i + 1))), (6, .int (nI (4 * p0 + i))), (0, .ref (q 0)), (1, .int (nI p0)), (2, .int (nI (32768 * gk + gt))), (3, .int tki), (4, .int u)]) hx hb dX0_nextWay_63 hl (k := 6) rfl (nI_inc _) (by decide) rfl (fun ls hl => ?_)
      refine lv_goto (tgt := 6) hx hb dX0_nextWay_66 (by decide) ?_
      exact ih_6 _ (by omega) ⟨u, by rw [fb_f (by simp [hl8])]; exact hf0_6, by rw [fb_f (by simp [hl8])]; exact hf1_6, lv_sub hl [2, 3, 4, 5, 6, 0] rfl⟩
    · have hl8 : Ld (4 * p0 + i) ≠ 8 := fun q => c_28 ((ix_m1 (hL _ (by omega)).1).mpr q)
      refine lv_aload_n hx hb dX0_nextWay_31 rfl (lv_at hl 1 rfl) ?_
      refine lv_iload hx hb dX0_nextWay_32 (lv_at hl 0 rfl) ?_
      refine lv_iload_n hx hb dX0_nextWay_34 rfl (lv_at hl 3 rfl) ?_
      refine k_callVi (As := [.int (nI (4 * p0 + i)), .int (nI (32768 * gk + gt))]) (rest := []) ⟨hx, hb, hml, hown, hts⟩ (c_X0_isReadAs l D cI q sh sp ld nm tx ds ct co kg ks (4 * p0 + i) (T (4 * p0 + i)) (K (4 * p0 + i)) (by omega) (hS _ (by omega)).1 (hS _ (by omega)).2.1 (hS _ (by omega)).2.2.1 gt gk hgt hgk hsh (hS _ (by omega)).2.2.2) (cwV 2 hts gX0_nextWay_X0_isReadAs rfl rfl rfl (by decide +kernel) ⟨Nat.le_of_ble_eq_true rfl, Nat.le_of_ble_eq_true rfl⟩) k_B_bl (k_B_of hP hK) (va_recv hK hP (ci := 0) (q0 := 0) rfl rfl) rfl hl.1 rfl (Nat.le_of_ble_eq_true rfl) dX0_nextWay_35 ⟨Nat.zero_le _, Nat.zero_le _⟩ ?_
      refine b_if_eq (tgt := 44) hx hb dX0_nextWay_38 (by decide) (fun c_38 => ?_) (fun c_38 => ?_)
      · refine lv_iload hx hb dX0_nextWay_44 (lv_at hl 5 rfl) ?_
        refine lv_iconst (v := (-1)) hx hb dX0_nextWay_46 (by decide) ?_
        refine lv_icmp_ne (tgt := 63) hx hb dX0_nextWay_47 (by decide) (fun c_47 => ?_) (fun c_47 => ?_)
        · refine lv_iinc (v := nI (i + 1)) (lv' := [(5, .int (nI (i + 1))), (6, .int (nI (4 * p0 + i))), (0, .ref (q 0)), (1, .int (nI p0)), (2, .int (nI (32768 * gk + gt))), (3, .int tki), (4, .int u)]) hx hb dX0_nextWay_63 hl (k := 6) rfl (nI_inc _) (by decide) rfl (fun ls hl => ?_)
          refine lv_goto (tgt := 6) hx hb dX0_nextWay_66 (by decide) ?_
          exact ih_6 _ (by omega) ⟨u, by rw [fb_f (by simp [c_38])]; exact hf0_6, by rw [fb_n (fun q => c_47 (by rw [hf1_6, q]; rfl))]; exact hf1_6, lv_sub hl [2, 3, 4, 5, 6, 0] rfl⟩
        · refine lv_iload_n hx hb dX0_nextWay_50 rfl (lv_at hl 4 rfl) ?_
          refine lv_iconst (v := nI 1) hx hb dX0_nextWay_51 (by decide) ?_
          refine lv_iload hx hb dX0_nextWay_52 (lv_at hl 0 rfl) ?_
          refine lv_ishl hx hb dX0_nextWay_54 ?_
          refine lv_iand hx hb dX0_nextWay_55 ?_
          refine lv_if_ne (tgt := 63) hx hb dX0_nextWay_56 (by decide) (fun c_56 => ?_) (fun c_56 => ?_)
          · refine lv_iinc (v := nI (i + 1)) (lv' := [(5, .int (nI (i + 1))), (6, .int (nI (4 * p0 + i))), (0, .ref (q 0)), (1, .int (nI p0)), (2, .int (nI (32768 * gk + gt))), (3, .int tki), (4, .int u)]) hx hb dX0_nextWay_63 hl (k := 6) rfl (nI_inc _) (by decide) rfl (fun ls hl => ?_)
            refine lv_goto (tgt := 6) hx hb dX0_nextWay_66 (by decide) ?_
            exact ih_6 _ (by omega) ⟨u, by rw [fb_f (by simp [c_38])]; exact hf0_6, by rw [fb_f (by simp [ts_nf (fun q => c_56 ((hTk _ (by omega)).mpr q))])]; exact hf1_6, lv_sub hl [2, 3, 4, 5, 6, 0] rfl⟩
          · refine lv_iload hx hb dX0_nextWay_59 (lv_at hl 0 rfl) ?_
            refine lv_istore (lv' := [(4, .int (nI (4 * p0 + i))), (6, .int (nI (4 * p0 + i))), (0, .ref (q 0)), (1, .int (nI p0)), (2, .int (nI (32768 * gk + gt))), (3, .int tki), (5, .int (nI i))]) hx hb dX0_nextWay_61 hl (by decide) rfl (fun ls hl => ?_)
            refine lv_iinc (v := nI (i + 1)) (lv' := [(5, .int (nI (i + 1))), (4, .int (nI (4 * p0 + i))), (6, .int (nI (4 * p0 + i))), (0, .ref (q 0)), (1, .int (nI p0)), (2, .int (nI (32768 * gk + gt))), (3, .int tki)]) hx hb dX0_nextWay_63 hl (k := 6) rfl (nI_inc _) (by decide) rfl (fun ls hl => ?_)
            refine lv_goto (tgt := 6) hx hb dX0_nextWay_66 (by decide) ?_
            exact ih_6 _ (by omega) ⟨nI (4 * p0 + i), by rw [fb_f (by simp [c_38])]; exact hf0_6, by rw [fb_t ((wv_m1 hp (by rcases fb_le (fun e => decide (Ld (4 * p0 + e) ≠ 8) && !tk (4 * p0 + e)) i (by omega) with q | q <;> omega)).mp (by rw [← hf1_6]; exact c_47)) (by simp [hl8, (hTk _ (by omega)).mp c_56])]; exact (wv_lt c_9).symm, lv_sub hl [3, 4, 5, 6, 1, 0] rfl⟩
      · refine lv_iload hx hb dX0_nextWay_41 (lv_at hl 0 rfl) ?_
        exact k_iret hx hb hr hlocks dX0_nextWay_43 (by rw [nx, nx_t hf0_6 (by simp [hl8, c_38]) c_9, wv_lt c_9])
set_option maxHeartbeats 4000000 in
set_option maxRecDepth 100000 in
theorem c_X0_stepsToArrive (l : Launch) (D : va_G) (cI : ClassId) (q : Nat → Nat) (sh sp ld nm tx ds ct : Nat → Int32) (co : Int64) (kg : Int32) (ks : Nat → Int32) (p1 : Nat) (hp : p1 < 8) (gt gk : Nat) (hgt : gt < 32768) (hgk : gk ≤ 5) (T K Ld : Nat → Nat) (hS : ∀ w, w < 32 → T w < 32768 ∧ K w ≤ 5 ∧ tx w = nI (32768 * K w + T w) ∧ ∀ j, j < K w → S25 (ct (w * 5 + j))) (hL : ∀ w, w < 32 → Ld w ≤ 8 ∧ ld w = ix (Ld w)) (hsh : ∀ g, g < 8 → S25 (sh g)) (NT NK : Nat → Nat) (hN : ∀ p, p < 8 → NT p < 32768 ∧ NK p ≤ 5 ∧ nm p = nI (32768 * NK p + NT p)) : k_M l yX0_stepsToArrive wsX0_stepsToArrive ({ frames := 7, cells := 0, slots := 0, locals := 163 } : Room) [.ref (q 0), .int (nI p1), .int (nI (32768 * gk + gt))] (k_B D (wx cI q sh sp ld nm tx ds ct co kg ks) [(cI, .int)]) (some (.int (sa (toldC sh ct ds K gk gt) Ld (arrC NK NT gk gt) 31 0 p1 tk0))) := by
  refine k_head (cc := cX0_stepsToArrive) (maxL := 7) (ret := some .int) [(0, .ref (q 0)), (1, .int (nI p1)), (2, .int (nI (32768 * gk + gt)))] (by decide) rfl (Nat.le_of_ble_eq_true rfl) rfl ?_
  intro p e s m below meth c ls hx hb hr hml hown hts hlocks hname hB hl
  have hown : s.vm.findClass RX0 = some m.cls := hown
  obtain ⟨hP, hK⟩ := hB
  have hin : ∀ w ∈ wsX00, w ∈ wsX0_stepsToArrive := fun w h => List.mem_cons_of_mem _ (List.mem_append_right _ h)
  refine lv_iload_n hx hb dX0_stepsToArrive_0 rfl (lv_at hl 1 rfl) ?_
  refine lv_istore_n (lv' := [(3, .int (nI p1)), (0, .ref (q 0)), (1, .int (nI p1)), (2, .int (nI (32768 * gk + gt)))]) hx hb dX0_stepsToArrive_1 rfl hl (by decide) rfl (fun ls hl => ?_)
  refine lv_iconst (v := nI 0) hx hb dX0_stepsToArrive_2 (by decide) ?_
  refine lv_istore (lv' := [(4, .int (nI 0)), (3, .int (nI p1)), (0, .ref (q 0)), (1, .int (nI p1)), (2, .int (nI (32768 * gk + gt)))]) hx hb dX0_stepsToArrive_3 hl (by decide) rfl (fun ls hl => ?_)
  refine lv_iconst (v := nI 0) hx hb dX0_stepsToArrive_5 (by decide) ?_
  refine lv_istore (lv' := [(5, .int (nI 0)), (4, .int (nI 0)), (3, .int (nI p1)), (0, .ref (q 0)), (1, .int (nI p1)), (2, .int (nI (32768 * gk + gt)))]) hx hb dX0_stepsToArrive_6 hl (by decide) rfl (fun ls hl => ?_)
  refine W.loop (fun i ls => ∃ (pl1 : Nat) (tki : Int32) (tk : Nat → Bool), (pl1 < 8) ∧ (tkR tki tk) ∧ (sa (toldC sh ct ds K gk gt) Ld (arrC NK NT gk gt) (31 - i) i pl1 tk = sa (toldC sh ct ds K gk gt) Ld (arrC NK NT gk gt) 31 0 p1 tk0) ∧ lv_has ls 7 [(0, .ref (q 0)), (1, .int (nI p1)), (2, .int (nI (32768 * gk + gt))), (3, .int (nI pl1)), (4, .int tki), (5, .int (nI i))]) (31) (0) (by omega) ⟨p1, nI 0, tk0, hp, tkR_0, rfl, lv_sub hl [3, 4, 5, 2, 1, 0] rfl⟩ ?_
  intro i ls hi_8 hI_8 ih_8
  obtain ⟨pl1, tki, tk, hf0_8, hf1_8, hf2_8, hl⟩ := hI_8
  refine lv_iload hx hb dX0_stepsToArrive_8 (lv_at hl 5 rfl) ?_
  refine lv_bipush (v := nI 30) hx hb dX0_stepsToArrive_10 (by decide) ?_
  refine n_icmp_gt (tgt := 69) hx hb dX0_stepsToArrive_12 (by decide) (by omega) (by omega) (fun c_12 => ?_) (fun c_12 => ?_)
  · refine lv_iconst (v := (-1)) hx hb dX0_stepsToArrive_69 (by decide) ?_
    exact k_iret hx hb hr hlocks dX0_stepsToArrive_70 (by rw [← hf2_8, show 31 - i = 0 from by omega]; rfl)
  · have hn1 := hN pl1 hf0_8
    refine lv_aload_n hx hb dX0_stepsToArrive_15 rfl (lv_at hl 0 rfl) ?_
    refine va_get (D := D) (ci := 0) (v := .ref (q 4)) (C := RX0) (T := TX0) (N := 10) hx hb hts hin hown hK hP 0 rfl rfl 3 (by decide) (hts (.fieldLink RX0 19 "SignRail" "names" "[I") (by decide +kernel)) (fun _ h9 => h9) rfl dX0_stepsToArrive_16 ?_
    refine lv_iload_n hx hb dX0_stepsToArrive_19 rfl (lv_at hl 3 rfl) ?_
    refine n_iald hx hb hK hP 4 0 rfl rfl (k := pl1) (by omega) (Nat.le_of_ble_eq_true rfl) dX0_stepsToArrive_20 ?_
    refine lv_as (y := nI (32768 * (NK pl1) + (NT pl1))) (hn1.2.2) ?_
    refine lv_iload_n hx hb dX0_stepsToArrive_21 rfl (lv_at hl 2 rfl) ?_
    refine n_icmp_ne (tgt := 28) hx hb dX0_stepsToArrive_22 (by decide) (by omega) (by omega) (fun c_22 => ?_) (fun c_22 => ?_)
    · refine lv_aload_n hx hb dX0_stepsToArrive_28 rfl (lv_at hl 0 rfl) ?_
      refine lv_iload_n hx hb dX0_stepsToArrive_29 rfl (lv_at hl 3 rfl) ?_
      refine lv_iload_n hx hb dX0_stepsToArrive_30 rfl (lv_at hl 2 rfl) ?_
      refine lv_iload hx hb dX0_stepsToArrive_31 (lv_at hl 4 rfl) ?_
      refine k_callVi (As := [.int (nI pl1), .int (nI (32768 * gk + gt)), .int tki]) (rest := []) ⟨hx, hb, hml, hown, hts⟩ (c_X0_nextWay l D cI q sh sp ld nm tx ds ct co kg ks pl1 hf0_8 gt gk hgt hgk tki tk hf1_8 T K Ld hS hL hsh) (cwV 3 hts gX0_stepsToArrive_X0_nextWay rfl rfl rfl (by decide +kernel) ⟨Nat.le_of_ble_eq_true rfl, Nat.le_of_ble_eq_true rfl⟩) k_B_bl (k_B_of hP hK) (va_recv hK hP (ci := 0) (q0 := 0) rfl rfl) rfl hl.1 rfl (Nat.le_of_ble_eq_true rfl) dX0_stepsToArrive_33 ⟨Nat.zero_le _, Nat.zero_le _⟩ ?_
      refine lv_istore (lv' := [(6, .int (wv pl1 (nx (toldC sh ct ds K gk gt) Ld tk pl1))), (0, .ref (q 0)), (1, .int (nI p1)), (2, .int (nI (32768 * gk + gt))), (3, .int (nI pl1)), (4, .int tki), (5, .int (nI i))]) hx hb dX0_stepsToArrive_36 hl (by decide) rfl (fun ls hl => ?_)
      refine lv_iload hx hb dX0_stepsToArrive_38 (lv_at hl 0 rfl) ?_
      refine lv_iconst (v := (-1)) hx hb dX0_stepsToArrive_40 (by decide) ?_
      refine lv_icmp_ne (tgt := 46) hx hb dX0_stepsToArrive_41 (by decide) (fun c_41 => ?_) (fun c_41 => ?_)
      · have hnx : nx (toldC sh ct ds K gk gt) Ld tk pl1 < 4 ∧ Ld (4 * pl1 + nx (toldC sh ct ds K gk gt) Ld tk pl1) ≠ 8 := nx_lt.resolve_left (fun q => c_41 (by rw [q]; rfl))
        rw [wv_lt hnx.1] at hl
        generalize hne : nx (toldC sh ct ds K gk gt) Ld tk pl1 = ne at hl hnx
        have hle := (hL (4 * pl1 + ne) (by omega)).1
        refine lv_iload hx hb dX0_stepsToArrive_46 (lv_at hl 5 rfl) ?_
        refine lv_iconst (v := nI 1) hx hb dX0_stepsToArrive_48 (by decide) ?_
        refine lv_iload hx hb dX0_stepsToArrive_49 (lv_at hl 0 rfl) ?_
        refine lv_ishl hx hb dX0_stepsToArrive_51 ?_
        refine lv_ior hx hb dX0_stepsToArrive_52 ?_
        refine lv_istore (lv' := [(4, .int (tki ||| ((nI 1) <<< ((nI (4 * pl1 + ne)) &&& 31)))), (6, .int (nI (4 * pl1 + ne))), (0, .ref (q 0)), (1, .int (nI p1)), (2, .int (nI (32768 * gk + gt))), (3, .int (nI pl1)), (5, .int (nI i))]) hx hb dX0_stepsToArrive_53 hl (by decide) rfl (fun ls hl => ?_)
        refine lv_aload_n hx hb dX0_stepsToArrive_55 rfl (lv_at hl 2 rfl) ?_
        refine va_get (D := D) (ci := 0) (v := .ref (q 3)) (C := RX0) (T := TX0) (N := 10) hx hb hts hin hown hK hP 0 rfl rfl 2 (by decide) (hts (.fieldLink RX0 16 "SignRail" "leads" "[I") (by decide +kernel)) (fun _ h9 => h9) rfl dX0_stepsToArrive_56 ?_
        refine lv_iload hx hb dX0_stepsToArrive_59 (lv_at hl 1 rfl) ?_
        refine n_iald hx hb hK hP 3 0 rfl rfl (k := (4 * pl1 + ne)) (by omega) (Nat.le_of_ble_eq_true rfl) dX0_stepsToArrive_61 ?_
        refine lv_as (y := nI (Ld (4 * pl1 + ne))) (((hL _ (by omega)).2).trans (ix_lt (by have := hnx.2; omega))) ?_
        refine lv_istore_n (lv' := [(3, .int (nI (Ld (4 * pl1 + ne)))), (4, .int (tki ||| ((nI 1) <<< ((nI (4 * pl1 + ne)) &&& 31)))), (6, .int (nI (4 * pl1 + ne))), (0, .ref (q 0)), (1, .int (nI p1)), (2, .int (nI (32768 * gk + gt))), (5, .int (nI i))]) hx hb dX0_stepsToArrive_62 rfl hl (by decide) rfl (fun ls hl => ?_)
        refine lv_iinc (v := nI (i + 1)) (lv' := [(5, .int (nI (i + 1))), (3, .int (nI (Ld (4 * pl1 + ne)))), (4, .int (tki ||| ((nI 1) <<< ((nI (4 * pl1 + ne)) &&& 31)))), (6, .int (nI (4 * pl1 + ne))), (0, .ref (q 0)), (1, .int (nI p1)), (2, .int (nI (32768 * gk + gt)))]) hx hb dX0_stepsToArrive_63 hl (k := 6) rfl (nI_inc _) (by decide) rfl (fun ls hl => ?_)
        refine lv_goto (tgt := 8) hx hb dX0_stepsToArrive_66 (by decide) ?_
        exact ih_8 _ (by omega) ⟨Ld (4 * pl1 + ne), tki ||| ((nI 1) <<< ((nI (4 * pl1 + ne)) &&& 31)), tkA tk (4 * pl1 + ne), by have := hnx.2; omega, tkR_add hf1_8 (by omega), by rw [← hf2_8, show 31 - i = (31 - (i + 1)) + 1 from by omega, sa_s (decide_eq_false (fun q => c_22 (by rw [q.1, q.2]))) hne hnx.1], lv_sub hl [4, 5, 6, 1, 2, 0] rfl⟩
      · refine lv_iconst (v := (-1)) hx hb dX0_stepsToArrive_44 (by decide) ?_
        exact k_iret hx hb hr hlocks dX0_stepsToArrive_45 (by rw [← hf2_8, show 31 - i = (30 - i) + 1 from by omega, sa_l (decide_eq_false (fun q => c_22 (by rw [q.1, q.2]))) ((wv_m1 hf0_8 (by rcases nx_lt (told := toldC sh ct ds K gk gt) (Ld := Ld) (tk := tk) (p := pl1) with q | q <;> omega)).mp c_41)])
    · refine lv_iload hx hb dX0_stepsToArrive_25 (lv_at hl 5 rfl) ?_
      exact k_iret hx hb hr hlocks dX0_stepsToArrive_27 (by rw [← hf2_8, show 31 - i = (30 - i) + 1 from by omega, sa_a (decide_eq_true ⟨by omega, by omega⟩)])
set_option maxHeartbeats 4000000 in
set_option maxRecDepth 100000 in
theorem c_X0_placeReached (l : Launch) (D : va_G) (cI : ClassId) (q : Nat → Nat) (sh sp ld nm tx ds ct : Nat → Int32) (co : Int64) (kg : Int32) (ks : Nat → Int32) (p1 : Nat) (hp : p1 < 8) (gt gk : Nat) (hgt : gt < 32768) (hgk : gk ≤ 5) (st : Nat) (hst : st ≤ 30) (T K Ld : Nat → Nat) (hS : ∀ w, w < 32 → T w < 32768 ∧ K w ≤ 5 ∧ tx w = nI (32768 * K w + T w) ∧ ∀ j, j < K w → S25 (ct (w * 5 + j))) (hL : ∀ w, w < 32 → Ld w ≤ 8 ∧ ld w = ix (Ld w)) (hsh : ∀ g, g < 8 → S25 (sh g)) (NT NK : Nat → Nat) (hN : ∀ p, p < 8 → NT p < 32768 ∧ NK p ≤ 5 ∧ nm p = nI (32768 * NK p + NT p)) : k_M l yX0_placeReached wsX0_placeReached ({ frames := 7, cells := 0, slots := 0, locals := 163 } : Room) [.ref (q 0), .int (nI p1), .int (nI (32768 * gk + gt)), .int (nI st)] (k_B D (wx cI q sh sp ld nm tx ds ct co kg ks) [(cI, .int)]) (some (.int (nI (pl (toldC sh ct ds K gk gt) Ld (arrC NK NT gk gt) st p1 tk0)))) := by
  refine k_head (cc := cX0_placeReached) (maxL := 8) (ret := some .int) [(0, .ref (q 0)), (1, .int (nI p1)), (2, .int (nI (32768 * gk + gt))), (3, .int (nI st))] (by decide) rfl (Nat.le_of_ble_eq_true rfl) rfl ?_
  intro p e s m below meth c ls hx hb hr hml hown hts hlocks hname hB hl
  have hown : s.vm.findClass RX0 = some m.cls := hown
  obtain ⟨hP, hK⟩ := hB
  have hin : ∀ w ∈ wsX00, w ∈ wsX0_placeReached := fun w h => List.mem_cons_of_mem _ (List.mem_append_right _ h)
  refine lv_iload_n hx hb dX0_placeReached_0 rfl (lv_at hl 1 rfl) ?_
  refine lv_istore (lv' := [(4, .int (nI p1)), (0, .ref (q 0)), (1, .int (nI p1)), (2, .int (nI (32768 * gk + gt))), (3, .int (nI st))]) hx hb dX0_placeReached_1 hl (by decide) rfl (fun ls hl => ?_)
  refine lv_iconst (v := nI 0) hx hb dX0_placeReached_3 (by decide) ?_
  refine lv_istore (lv' := [(5, .int (nI 0)), (4, .int (nI p1)), (0, .ref (q 0)), (1, .int (nI p1)), (2, .int (nI (32768 * gk + gt))), (3, .int (nI st))]) hx hb dX0_placeReached_4 hl (by decide) rfl (fun ls hl => ?_)
  refine lv_iconst (v := nI 0) hx hb dX0_placeReached_6 (by decide) ?_
  refine lv_istore (lv' := [(6, .int (nI 0)), (5, .int (nI 0)), (4, .int (nI p1)), (0, .ref (q 0)), (1, .int (nI p1)), (2, .int (nI (32768 * gk + gt))), (3, .int (nI st))]) hx hb dX0_placeReached_7 hl (by decide) rfl (fun ls hl => ?_)
  refine W.loop (fun i ls => ∃ (pl1 : Nat) (tki : Int32) (tk : Nat → Bool), (pl1 < 8) ∧ (tkR tki tk) ∧ (pl (toldC sh ct ds K gk gt) Ld (arrC NK NT gk gt) (st - i) pl1 tk = pl (toldC sh ct ds K gk gt) Ld (arrC NK NT gk gt) st p1 tk0) ∧ lv_has ls 8 [(0, .ref (q 0)), (1, .int (nI p1)), (2, .int (nI (32768 * gk + gt))), (3, .int (nI st)), (4, .int (nI pl1)), (5, .int tki), (6, .int (nI i))]) (st) (0) (by omega) ⟨p1, nI 0, tk0, hp, tkR_0, rfl, lv_sub hl [3, 4, 5, 6, 2, 1, 0] rfl⟩ ?_
  intro i ls hi_9 hI_9 ih_9
  obtain ⟨pl1, tki, tk, hf0_9, hf1_9, hf2_9, hl⟩ := hI_9
  refine lv_iload hx hb dX0_placeReached_9 (lv_at hl 6 rfl) ?_
  refine lv_iload_n hx hb dX0_placeReached_11 rfl (lv_at hl 3 rfl) ?_
  refine n_icmp_ge (tgt := 70) hx hb dX0_placeReached_12 (by decide) (by omega) (by omega) (fun c_12 => ?_) (fun c_12 => ?_)
  · refine lv_iload hx hb dX0_placeReached_70 (lv_at hl 4 rfl) ?_
    exact k_iret hx hb hr hlocks dX0_placeReached_72 (by rw [← hf2_9, show st - i = 0 from by omega]; rfl)
  · have hn1 := hN pl1 hf0_9
    refine lv_aload_n hx hb dX0_placeReached_15 rfl (lv_at hl 0 rfl) ?_
    refine va_get (D := D) (ci := 0) (v := .ref (q 4)) (C := RX0) (T := TX0) (N := 10) hx hb hts hin hown hK hP 0 rfl rfl 3 (by decide) (hts (.fieldLink RX0 19 "SignRail" "names" "[I") (by decide +kernel)) (fun _ h9 => h9) rfl dX0_placeReached_16 ?_
    refine lv_iload hx hb dX0_placeReached_19 (lv_at hl 4 rfl) ?_
    refine n_iald hx hb hK hP 4 0 rfl rfl (k := pl1) (by omega) (Nat.le_of_ble_eq_true rfl) dX0_placeReached_21 ?_
    refine lv_as (y := nI (32768 * (NK pl1) + (NT pl1))) (hn1.2.2) ?_
    refine lv_iload_n hx hb dX0_placeReached_22 rfl (lv_at hl 2 rfl) ?_
    refine n_icmp_eq (tgt := 70) hx hb dX0_placeReached_23 (by decide) (by omega) (by omega) (fun c_23 => ?_) (fun c_23 => ?_)
    · refine lv_iload hx hb dX0_placeReached_70 (lv_at hl 4 rfl) ?_
      exact k_iret hx hb hr hlocks dX0_placeReached_72 (by rw [← hf2_9, show st - i = (st - i - 1) + 1 from by omega, pl_a (decide_eq_true ⟨by omega, by omega⟩)])
    · refine lv_aload_n hx hb dX0_placeReached_26 rfl (lv_at hl 0 rfl) ?_
      refine lv_iload hx hb dX0_placeReached_27 (lv_at hl 4 rfl) ?_
      refine lv_iload_n hx hb dX0_placeReached_29 rfl (lv_at hl 2 rfl) ?_
      refine lv_iload hx hb dX0_placeReached_30 (lv_at hl 5 rfl) ?_
      refine k_callVi (As := [.int (nI pl1), .int (nI (32768 * gk + gt)), .int tki]) (rest := []) ⟨hx, hb, hml, hown, hts⟩ (c_X0_nextWay l D cI q sh sp ld nm tx ds ct co kg ks pl1 hf0_9 gt gk hgt hgk tki tk hf1_9 T K Ld hS hL hsh) (cwV 3 hts gX0_placeReached_X0_nextWay rfl rfl rfl (by decide +kernel) ⟨Nat.le_of_ble_eq_true rfl, Nat.le_of_ble_eq_true rfl⟩) k_B_bl (k_B_of hP hK) (va_recv hK hP (ci := 0) (q0 := 0) rfl rfl) rfl hl.1 rfl (Nat.le_of_ble_eq_true rfl) dX0_placeReached_32 ⟨Nat.zero_le _, Nat.zero_le _⟩ ?_
      refine lv_istore (lv' := [(7, .int (wv pl1 (nx (toldC sh ct ds K gk gt) Ld tk pl1))), (0, .ref (q 0)), (1, .int (nI p1)), (2, .int (nI (32768 * gk + gt))), (3, .int (nI st)), (4, .int (nI pl1)), (5, .int tki), (6, .int (nI i))]) hx hb dX0_placeReached_35 hl (by decide) rfl (fun ls hl => ?_)
      refine lv_iload hx hb dX0_placeReached_37 (lv_at hl 0 rfl) ?_
      refine lv_iconst (v := (-1)) hx hb dX0_placeReached_39 (by decide) ?_
      refine lv_icmp_ne (tgt := 46) hx hb dX0_placeReached_40 (by decide) (fun c_40 => ?_) (fun c_40 => ?_)
      · have hnx : nx (toldC sh ct ds K gk gt) Ld tk pl1 < 4 ∧ Ld (4 * pl1 + nx (toldC sh ct ds K gk gt) Ld tk pl1) ≠ 8 := nx_lt.resolve_left (fun q => c_40 (by rw [q]; rfl))
        rw [wv_lt hnx.1] at hl
        generalize hne : nx (toldC sh ct ds K gk gt) Ld tk pl1 = ne at hl hnx
        have hle := (hL (4 * pl1 + ne) (by omega)).1
        refine lv_iload hx hb dX0_placeReached_46 (lv_at hl 6 rfl) ?_
        refine lv_iconst (v := nI 1) hx hb dX0_placeReached_48 (by decide) ?_
        refine lv_iload hx hb dX0_placeReached_49 (lv_at hl 0 rfl) ?_
        refine lv_ishl hx hb dX0_placeReached_51 ?_
        refine lv_ior hx hb dX0_placeReached_52 ?_
        refine lv_istore (lv' := [(5, .int (tki ||| ((nI 1) <<< ((nI (4 * pl1 + ne)) &&& 31)))), (7, .int (nI (4 * pl1 + ne))), (0, .ref (q 0)), (1, .int (nI p1)), (2, .int (nI (32768 * gk + gt))), (3, .int (nI st)), (4, .int (nI pl1)), (6, .int (nI i))]) hx hb dX0_placeReached_53 hl (by decide) rfl (fun ls hl => ?_)
        refine lv_aload_n hx hb dX0_placeReached_55 rfl (lv_at hl 2 rfl) ?_
        refine va_get (D := D) (ci := 0) (v := .ref (q 3)) (C := RX0) (T := TX0) (N := 10) hx hb hts hin hown hK hP 0 rfl rfl 2 (by decide) (hts (.fieldLink RX0 16 "SignRail" "leads" "[I") (by decide +kernel)) (fun _ h9 => h9) rfl dX0_placeReached_56 ?_
        refine lv_iload hx hb dX0_placeReached_59 (lv_at hl 1 rfl) ?_
        refine n_iald hx hb hK hP 3 0 rfl rfl (k := (4 * pl1 + ne)) (by omega) (Nat.le_of_ble_eq_true rfl) dX0_placeReached_61 ?_
        refine lv_as (y := nI (Ld (4 * pl1 + ne))) (((hL _ (by omega)).2).trans (ix_lt (by have := hnx.2; omega))) ?_
        refine lv_istore (lv' := [(4, .int (nI (Ld (4 * pl1 + ne)))), (5, .int (tki ||| ((nI 1) <<< ((nI (4 * pl1 + ne)) &&& 31)))), (7, .int (nI (4 * pl1 + ne))), (0, .ref (q 0)), (1, .int (nI p1)), (2, .int (nI (32768 * gk + gt))), (3, .int (nI st)), (6, .int (nI i))]) hx hb dX0_placeReached_62 hl (by decide) rfl (fun ls hl => ?_)
        refine lv_iinc (v := nI (i + 1)) (lv' := [(6, .int (nI (i + 1))), (4, .int (nI (Ld (4 * pl1 + ne)))), (5, .int (tki ||| ((nI 1) <<< ((nI (4 * pl1 + ne)) &&& 31)))), (7, .int (nI (4 * pl1 + ne))), (0, .ref (q 0)), (1, .int (nI p1)), (2, .int (nI (32768 * gk + gt))), (3, .int (nI st))]) hx hb dX0_placeReached_64 hl (k := 7) rfl (nI_inc _) (by decide) rfl (fun ls hl => ?_)
        refine lv_goto (tgt := 9) hx hb dX0_placeReached_67 (by decide) ?_
        exact ih_9 _ (by omega) ⟨Ld (4 * pl1 + ne), tki ||| ((nI 1) <<< ((nI (4 * pl1 + ne)) &&& 31)), tkA tk (4 * pl1 + ne), by have := hnx.2; omega, tkR_add hf1_9 (by omega), by rw [← hf2_9, show st - i = (st - (i + 1)) + 1 from by omega, pl_s (decide_eq_false (fun q => c_23 (by rw [q.1, q.2]))) hne hnx.1], lv_sub hl [4, 5, 6, 7, 1, 2, 0] rfl⟩
      · refine lv_iload hx hb dX0_placeReached_43 (lv_at hl 5 rfl) ?_
        exact k_iret hx hb hr hlocks dX0_placeReached_45 (by rw [← hf2_9, show st - i = (st - i - 1) + 1 from by omega, pl_l ((wv_m1 hf0_9 (by rcases nx_lt (told := toldC sh ct ds K gk gt) (Ld := Ld) (tk := tk) (p := pl1) with q | q <;> omega)).mp c_40)])
end
section
abbrev hcW (s : Int32) : Nat → Bool := fun x => hcR s x 5
abbrev wdR (sh : Nat → Int32) : Nat → Int32 := fun g => wdF (hcW (sh g))
abbrev dR (sh : Nat → Int32) (x : Int32) : Nat → Int32 := fun g => df (sh g) x
abbrev rdR (sh ct ds : Nat → Int32) (w : Nat) : Nat → Nat := fun j => rdG (dR sh (ct (5 * w + j))) (ds w)
abbrev oldR (sh ct : Nat → Int32) (w t k : Nat) : Nat → Bool := fun j => decide (ct (5 * w + j) ≠ sh (dg t (k - 1 - j)))
def rrN (r : Nat → Nat) : Nat → Nat
  | 0 => 0
  | j + 1 => 8 * rrN r j + r j
theorem rrN_lt {r : Nat → Nat} (h : ∀ j, r j < 8) : ∀ k, rrN r k < 8 ^ k
  | 0 => Nat.one_pos
  | k + 1 => by
    have h1 := rrN_lt h k
    have h2 := h k
    show 8 * rrN r k + r k < 8 ^ k * 8
    omega
def rdasR (sh ct ds : Nat → Int32) (w k gk gt : Nat) : Bool := decide (k = gk ∧ rrN (rdR sh ct ds w) k = gt)
abbrev toldR (sh ct ds : Nat → Int32) (K : Nat → Nat) (gk gt : Nat) : Nat → Bool := fun w => rdasR sh ct ds w (K w) gk gt
theorem pwR_z {wd sp : Nat → Int32} {t n j : Nat} (h : j = 0) : pwR wd sp t n (j + 1) = (pwR wd sp t n j + wd (dg t (n - 1 - j))) + nI 0 := by
  show (_ + if 0 < j then _ else _) = _
  rw [if_neg (by omega)]
theorem pwR_p {wd sp : Nat → Int32} {t n j : Nat} (h : 0 < j) : pwR wd sp t n (j + 1) = (pwR wd sp t n j + wd (dg t (n - 1 - j))) + sp (8 * dg t (n - 1 - (j - 1)) + dg t (n - 1 - j)) := by
  show (_ + if 0 < j then _ else _) = _
  rw [if_pos h]
theorem nr_8 {d : Nat → Int32} {but i n : Nat} (h : i ≠ but) (hn : n = nrN d but i) (h8 : n = 8) : i = nrN d but (i + 1) := by
  rw [nrN_s, if_pos ⟨h, Or.inl (by rw [← hn]; exact h8)⟩]
def gb (b : Nat → Bool) : Nat → Nat
  | 0 => 4
  | n + 1 => if b (3 - n) = true then 3 - n else gb b n
theorem gb_t {b : Nat → Bool} {n : Nat} (h : b (3 - n) = true) : gb b (n + 1) = 3 - n := by
  show (if b (3 - n) = true then _ else _) = _
  rw [if_pos h]
theorem gb_f {b : Nat → Bool} {n : Nat} (h : b (3 - n) = false) : gb b (n + 1) = gb b n := by
  show (if b (3 - n) = true then _ else _) = _
  rw [if_neg (by rw [h]; decide)]
theorem gb_fb (b : Nat → Bool) : gb b 4 = fb b 4 := by
  simp only [gb, fb]
  cases b 0 <;> cases b 1 <;> cases b 2 <;> cases b 3 <;> simp
theorem gb_le (b : Nat → Bool) : ∀ n, n ≤ 4 → gb b n ≤ 4
  | 0, _ => Nat.le_refl _
  | n + 1, h => by
    show (if b (3 - n) = true then _ else _) ≤ 4
    split
    · omega
    · exact gb_le b n (by omega)
theorem sg_lt : ∀ p, p < 8 → ∀ i, i < 5 → (nI (4 * p + (4 - i)) - nI 1 < nI (4 * p) ↔ i = 4) := by decide
theorem sg_eq : ∀ p, p < 8 → ∀ i, i < 4 → nI (4 * p + (4 - i)) - nI 1 = nI (4 * p + (3 - i)) := by decide
theorem sg_dec : ∀ p, p < 8 → ∀ i, i < 4 → nI (4 * p + (3 - i)) + Int32.ofInt (-1) = nI (4 * p + (4 - (i + 1))) - nI 1 := by decide
set_option maxHeartbeats 4000000 in
set_option maxRecDepth 100000 in
theorem c_X1_widthOf (l : Launch) (D : va_G) (cI cZ : ClassId) (q : Nat → Nat) (th : Int32) (sh sp ld nm nk tx mn ds ct : Nat → Int32) (co : Int64) (st at0 ha : Int32) (tk : Nat → Int32) (g : Nat) (hg : g < 8) : k_M l yX1_widthOf wsX1_widthOf ({ frames := 0, cells := 0, slots := 0, locals := 0 } : Room) [.ref (q 0), .int (nI g)] (k_B D (wm cI cZ q th sh sp ld nm nk tx mn ds ct co st at0 ha tk) [(cI, .int), (cZ, .boolean)]) (some (.int (wdF (hcW (sh g))))) := by
  refine k_head (cc := cX1_widthOf) (maxL := 7) (ret := some .int) [(0, .ref (q 0)), (1, .int (nI g))] (by decide) rfl (Nat.le_of_ble_eq_true rfl) rfl ?_
  intro p e s m below meth c ls hx hb hr hml hown hts hlocks hname hB hl
  have hown : s.vm.findClass RX1 = some m.cls := hown
  obtain ⟨hP, hK⟩ := hB
  have hin : ∀ w ∈ wsX10, w ∈ wsX1_widthOf := fun w h => List.mem_cons_of_mem _ (List.mem_append_right _ h)
  refine lv_iconst (v := (-1)) hx hb dX1_widthOf_0 (by decide) ?_
  refine lv_istore_n (lv' := [(2, .int (-1)), (0, .ref (q 0)), (1, .int (nI g))]) hx hb dX1_widthOf_1 rfl hl (by decide) rfl (fun ls hl => ?_)
  refine lv_iconst (v := (-1)) hx hb dX1_widthOf_2 (by decide) ?_
  refine lv_istore_n (lv' := [(3, .int (-1)), (2, .int (-1)), (0, .ref (q 0)), (1, .int (nI g))]) hx hb dX1_widthOf_3 rfl hl (by decide) rfl (fun ls hl => ?_)
  refine lv_iconst (v := nI 0) hx hb dX1_widthOf_4 (by decide) ?_
  refine lv_istore (lv' := [(4, .int (nI 0)), (3, .int (-1)), (2, .int (-1)), (0, .ref (q 0)), (1, .int (nI g))]) hx hb dX1_widthOf_5 hl (by decide) rfl (fun ls hl => ?_)
  refine W.loop (fun i ls => ∃ (f1 : Int32) (l1 : Int32), (f1 = (wfF (hcW (sh g)) i).1) ∧ (l1 = (wfF (hcW (sh g)) i).2) ∧ lv_has ls 7 [(0, .ref (q 0)), (1, .int (nI g)), (2, .int f1), (3, .int l1), (4, .int (nI i))]) (5) (0) (by omega) ⟨(-1), (-1), rfl, rfl, lv_sub hl [3, 4, 2, 1, 0] rfl⟩ ?_
  intro i ls hi_7 hI_7 ih_7
  obtain ⟨f1, l1, hf0_7, hf1_7, hl⟩ := hI_7
  refine lv_iload hx hb dX1_widthOf_7 (lv_at hl 4 rfl) ?_
  refine lv_iconst (v := nI 5) hx hb dX1_widthOf_9 (by decide) ?_
  refine n_icmp_ge (tgt := 98) hx hb dX1_widthOf_10 (by decide) (by omega) (by omega) (fun c_10 => ?_) (fun c_10 => ?_)
  · refine lv_iload_n hx hb dX1_widthOf_98 rfl (lv_at hl 2 rfl) ?_
    refine lv_iconst (v := (-1)) hx hb dX1_widthOf_99 (by decide) ?_
    refine lv_icmp_ne (tgt := 107) hx hb dX1_widthOf_100 (by decide) (fun c_100 => ?_) (fun c_100 => ?_)
    · refine lv_iload_n hx hb dX1_widthOf_107 rfl (lv_at hl 3 rfl) ?_
      refine lv_iload_n hx hb dX1_widthOf_108 rfl (lv_at hl 2 rfl) ?_
      refine lv_isub hx hb dX1_widthOf_109 ?_
      refine lv_iconst (v := nI 1) hx hb dX1_widthOf_110 (by decide) ?_
      refine lv_iadd hx hb dX1_widthOf_111 ?_
      have h5 : i = 5 := by omega
      subst h5
      exact k_iret hx hb hr hlocks dX1_widthOf_112 (by simp [wdF, ← hf0_7, ← hf1_7, c_100])
    · refine lv_iconst (v := nI 2) hx hb dX1_widthOf_103 (by decide) ?_
      refine lv_goto (tgt := 112) hx hb dX1_widthOf_104 (by decide) ?_
      have h5 : i = 5 := by omega
      subst h5
      exact k_iret hx hb hr hlocks dX1_widthOf_112 (by simp [wdF, ← hf0_7, ← hf1_7, c_100])
  · refine lv_iconst (v := nI 0) hx hb dX1_widthOf_13 (by decide) ?_
    refine lv_istore (lv' := [(5, .int (nI 0)), (0, .ref (q 0)), (1, .int (nI g)), (2, .int f1), (3, .int l1), (4, .int (nI i))]) hx hb dX1_widthOf_14 hl (by decide) rfl (fun ls hl => ?_)
    refine lv_iconst (v := nI 0) hx hb dX1_widthOf_16 (by decide) ?_
    refine lv_istore (lv' := [(6, .int (nI 0)), (5, .int (nI 0)), (0, .ref (q 0)), (1, .int (nI g)), (2, .int f1), (3, .int l1), (4, .int (nI i))]) hx hb dX1_widthOf_17 hl (by decide) rfl (fun ls hl => ?_)
    refine W.loop (fun j ls => lv_has ls 7 [(0, .ref (q 0)), (1, .int (nI g)), (2, .int f1), (3, .int l1), (4, .int (nI i)), (5, .int (bI (hcR (sh g) i j))), (6, .int (nI j))]) (5) (0) (by omega) (lv_sub hl [2, 3, 4, 5, 6, 1, 0] rfl) ?_
    intro j ls hi_19 hI_19 ih_19
    have hl := hI_19
    refine lv_iload hx hb dX1_widthOf_19 (lv_at hl 6 rfl) ?_
    refine lv_iconst (v := nI 5) hx hb dX1_widthOf_21 (by decide) ?_
    refine n_icmp_ge (tgt := 63) hx hb dX1_widthOf_22 (by decide) (by omega) (by omega) (fun c_22 => ?_) (fun c_22 => ?_)
    · have hj : j = 5 := by omega
      subst hj
      refine lv_iload hx hb dX1_widthOf_63 (lv_at hl 5 rfl) ?_
      refine b_if_eq (tgt := 78) hx hb dX1_widthOf_65 (by decide) (fun c_65 => ?_) (fun c_65 => ?_)
      · refine lv_iload_n hx hb dX1_widthOf_78 rfl (lv_at hl 2 rfl) ?_
        refine lv_istore_n (lv' := [(2, .int f1), (0, .ref (q 0)), (1, .int (nI g)), (3, .int l1), (4, .int (nI i)), (5, .int (bI (hcR (sh g) i 5))), (6, .int (nI 5))]) hx hb dX1_widthOf_79 rfl hl (by decide) rfl (fun ls hl => ?_)
        refine lv_iload hx hb dX1_widthOf_80 (lv_at hl 5 rfl) ?_
        refine b_if_eq (tgt := 90) hx hb dX1_widthOf_82 (by decide) (fun c_82 => ?_) (fun c_82 => absurd (c_82.symm.trans c_65) (by decide))
        refine lv_iload_n hx hb dX1_widthOf_90 rfl (lv_at hl 3 rfl) ?_
        refine lv_istore_n (lv' := [(3, .int l1), (2, .int f1), (0, .ref (q 0)), (1, .int (nI g)), (4, .int (nI i)), (5, .int (bI (hcR (sh g) i 5))), (6, .int (nI 5))]) hx hb dX1_widthOf_91 rfl hl (by decide) rfl (fun ls hl => ?_)
        refine lv_iinc (v := nI (i + 1)) (lv' := [(4, .int (nI (i + 1))), (3, .int l1), (2, .int f1), (0, .ref (q 0)), (1, .int (nI g)), (5, .int (bI (hcR (sh g) i 5))), (6, .int (nI 5))]) hx hb dX1_widthOf_92 hl (k := 4) rfl (nI_inc _) (by decide) rfl (fun ls hl => ?_)
        refine lv_goto (tgt := 7) hx hb dX1_widthOf_95 (by decide) ?_
        exact ih_7 _ (by omega) ⟨f1, l1, by rw [wfF_f (h := hcW (sh g)) (k := i) c_65]; exact hf0_7, by rw [wfF_f (h := hcW (sh g)) (k := i) c_65]; exact hf1_7, lv_sub hl [3, 4, 2, 1, 0] rfl⟩
      · refine lv_iload_n hx hb dX1_widthOf_68 rfl (lv_at hl 2 rfl) ?_
        refine lv_iconst (v := (-1)) hx hb dX1_widthOf_69 (by decide) ?_
        refine lv_icmp_ne (tgt := 78) hx hb dX1_widthOf_70 (by decide) (fun c_70 => ?_) (fun c_70 => ?_)
        · refine lv_iload_n hx hb dX1_widthOf_78 rfl (lv_at hl 2 rfl) ?_
          refine lv_istore_n (lv' := [(2, .int f1), (0, .ref (q 0)), (1, .int (nI g)), (3, .int l1), (4, .int (nI i)), (5, .int (bI (hcR (sh g) i 5))), (6, .int (nI 5))]) hx hb dX1_widthOf_79 rfl hl (by decide) rfl (fun ls hl => ?_)
          refine lv_iload hx hb dX1_widthOf_80 (lv_at hl 5 rfl) ?_
          refine b_if_eq (tgt := 90) hx hb dX1_widthOf_82 (by decide) (fun c_82 => absurd (c_82.symm.trans c_65) (by decide)) (fun c_82 => ?_)
          refine lv_iload hx hb dX1_widthOf_85 (lv_at hl 4 rfl) ?_
          refine lv_goto (tgt := 91) hx hb dX1_widthOf_87 (by decide) ?_
          refine lv_istore_n (lv' := [(3, .int (nI i)), (2, .int f1), (0, .ref (q 0)), (1, .int (nI g)), (4, .int (nI i)), (5, .int (bI (hcR (sh g) i 5))), (6, .int (nI 5))]) hx hb dX1_widthOf_91 rfl hl (by decide) rfl (fun ls hl => ?_)
          refine lv_iinc (v := nI (i + 1)) (lv' := [(4, .int (nI (i + 1))), (3, .int (nI i)), (2, .int f1), (0, .ref (q 0)), (1, .int (nI g)), (5, .int (bI (hcR (sh g) i 5))), (6, .int (nI 5))]) hx hb dX1_widthOf_92 hl (k := 4) rfl (nI_inc _) (by decide) rfl (fun ls hl => ?_)
          refine lv_goto (tgt := 7) hx hb dX1_widthOf_95 (by decide) ?_
          exact ih_7 _ (by omega) ⟨f1, nI i, by rw [wfF_t (h := hcW (sh g)) (k := i) c_65, ← hf0_7]; exact (if_neg c_70).symm, by rw [wfF_t (h := hcW (sh g)) (k := i) c_65], lv_sub hl [3, 4, 2, 1, 0] rfl⟩
        · refine lv_iload hx hb dX1_widthOf_73 (lv_at hl 4 rfl) ?_
          refine lv_goto (tgt := 79) hx hb dX1_widthOf_75 (by decide) ?_
          refine lv_istore_n (lv' := [(2, .int (nI i)), (0, .ref (q 0)), (1, .int (nI g)), (3, .int l1), (4, .int (nI i)), (5, .int (bI (hcR (sh g) i 5))), (6, .int (nI 5))]) hx hb dX1_widthOf_79 rfl hl (by decide) rfl (fun ls hl => ?_)
          refine lv_iload hx hb dX1_widthOf_80 (lv_at hl 5 rfl) ?_
          refine b_if_eq (tgt := 90) hx hb dX1_widthOf_82 (by decide) (fun c_82 => absurd (c_82.symm.trans c_65) (by decide)) (fun c_82 => ?_)
          refine lv_iload hx hb dX1_widthOf_85 (lv_at hl 4 rfl) ?_
          refine lv_goto (tgt := 91) hx hb dX1_widthOf_87 (by decide) ?_
          refine lv_istore_n (lv' := [(3, .int (nI i)), (2, .int (nI i)), (0, .ref (q 0)), (1, .int (nI g)), (4, .int (nI i)), (5, .int (bI (hcR (sh g) i 5))), (6, .int (nI 5))]) hx hb dX1_widthOf_91 rfl hl (by decide) rfl (fun ls hl => ?_)
          refine lv_iinc (v := nI (i + 1)) (lv' := [(4, .int (nI (i + 1))), (3, .int (nI i)), (2, .int (nI i)), (0, .ref (q 0)), (1, .int (nI g)), (5, .int (bI (hcR (sh g) i 5))), (6, .int (nI 5))]) hx hb dX1_widthOf_92 hl (k := 4) rfl (nI_inc _) (by decide) rfl (fun ls hl => ?_)
          refine lv_goto (tgt := 7) hx hb dX1_widthOf_95 (by decide) ?_
          exact ih_7 _ (by omega) ⟨nI i, nI i, by rw [wfF_t (h := hcW (sh g)) (k := i) c_65, ← hf0_7]; exact (if_pos c_70).symm, by rw [wfF_t (h := hcW (sh g)) (k := i) c_65], lv_sub hl [3, 4, 2, 1, 0] rfl⟩
    · refine lv_iload hx hb dX1_widthOf_25 (lv_at hl 5 rfl) ?_
      refine b_if_ne (tgt := 50) hx hb dX1_widthOf_27 (by decide) (fun c_27 => ?_) (fun c_27 => ?_)
      · refine lv_iconst (v := nI 1) hx hb dX1_widthOf_50 (by decide) ?_
        refine lv_as (y := bI (hcR (sh g) i (j + 1))) (by first | (rw [hcR, c_27]; rfl) | (rw [hcR, bitI, decide_eq_true c_47, Bool.or_true]; rfl)) ?_
        refine lv_goto (tgt := 55) hx hb dX1_widthOf_51 (by decide) ?_
        refine lv_istore (lv' := [(5, .int (bI (hcR (sh g) i (j + 1)))), (0, .ref (q 0)), (1, .int (nI g)), (2, .int f1), (3, .int l1), (4, .int (nI i)), (6, .int (nI j))]) hx hb dX1_widthOf_55 hl (by decide) rfl (fun ls hl => ?_)
        refine lv_iinc (v := nI (j + 1)) (lv' := [(6, .int (nI (j + 1))), (5, .int (bI (hcR (sh g) i (j + 1)))), (0, .ref (q 0)), (1, .int (nI g)), (2, .int f1), (3, .int l1), (4, .int (nI i))]) hx hb dX1_widthOf_57 hl (k := 6) rfl (nI_inc _) (by decide) rfl (fun ls hl => ?_)
        refine lv_goto (tgt := 19) hx hb dX1_widthOf_60 (by decide) ?_
        exact ih_19 _ (by omega) (lv_sub hl [2, 3, 4, 5, 6, 1, 0] rfl)
      · refine lv_aload_n hx hb dX1_widthOf_30 rfl (lv_at hl 0 rfl) ?_
        refine va_get (D := D) (ci := 1) (v := .ref (q 1)) (C := RX1) (T := TX1) (N := 15) hx hb hts hin hown hK hP 0 rfl rfl 1 (by decide) (hts (.fieldLink RX1 7 "SignRailModel" "shapes" "[I") (by decide +kernel)) (fun _ h9 => h9) rfl dX1_widthOf_31 ?_
        refine lv_iload_n hx hb dX1_widthOf_34 rfl (lv_at hl 1 rfl) ?_
        refine n_iald hx hb hK hP 1 0 rfl rfl (k := g) (by omega) (Nat.le_of_ble_eq_true rfl) dX1_widthOf_35 ?_
        refine lv_iconst (v := nI 5) hx hb dX1_widthOf_36 (by decide) ?_
        refine lv_iload hx hb dX1_widthOf_37 (lv_at hl 6 rfl) ?_
        refine lv_imul hx hb dX1_widthOf_39 ?_
        refine lv_as (y := nI (5 * j)) (pk_mul _ _) ?_
        refine lv_iload hx hb dX1_widthOf_40 (lv_at hl 4 rfl) ?_
        refine lv_iadd hx hb dX1_widthOf_42 ?_
        refine lv_as (y := nI ((5 * j) + i)) (nI_add _ _) ?_
        refine lv_ishr hx hb dX1_widthOf_43 ?_
        refine lv_iconst (v := nI 1) hx hb dX1_widthOf_44 (by decide) ?_
        refine lv_iand hx hb dX1_widthOf_45 ?_
        refine lv_iconst (v := nI 1) hx hb dX1_widthOf_46 (by decide) ?_
        refine lv_icmp_ne (tgt := 54) hx hb dX1_widthOf_47 (by decide) (fun c_47 => ?_) (fun c_47 => ?_)
        · refine lv_iconst (v := nI 0) hx hb dX1_widthOf_54 (by decide) ?_
          refine lv_as (y := bI (hcR (sh g) i (j + 1))) (by rw [hcR, bitI, decide_eq_false c_47, c_27]; rfl) ?_
          refine lv_istore (lv' := [(5, .int (bI (hcR (sh g) i (j + 1)))), (0, .ref (q 0)), (1, .int (nI g)), (2, .int f1), (3, .int l1), (4, .int (nI i)), (6, .int (nI j))]) hx hb dX1_widthOf_55 hl (by decide) rfl (fun ls hl => ?_)
          refine lv_iinc (v := nI (j + 1)) (lv' := [(6, .int (nI (j + 1))), (5, .int (bI (hcR (sh g) i (j + 1)))), (0, .ref (q 0)), (1, .int (nI g)), (2, .int f1), (3, .int l1), (4, .int (nI i))]) hx hb dX1_widthOf_57 hl (k := 6) rfl (nI_inc _) (by decide) rfl (fun ls hl => ?_)
          refine lv_goto (tgt := 19) hx hb dX1_widthOf_60 (by decide) ?_
          exact ih_19 _ (by omega) (lv_sub hl [2, 3, 4, 5, 6, 1, 0] rfl)
        · refine lv_iconst (v := nI 1) hx hb dX1_widthOf_50 (by decide) ?_
          refine lv_as (y := bI (hcR (sh g) i (j + 1))) (by first | (rw [hcR, c_27]; rfl) | (rw [hcR, bitI, decide_eq_true c_47, Bool.or_true]; rfl)) ?_
          refine lv_goto (tgt := 55) hx hb dX1_widthOf_51 (by decide) ?_
          refine lv_istore (lv' := [(5, .int (bI (hcR (sh g) i (j + 1)))), (0, .ref (q 0)), (1, .int (nI g)), (2, .int f1), (3, .int l1), (4, .int (nI i)), (6, .int (nI j))]) hx hb dX1_widthOf_55 hl (by decide) rfl (fun ls hl => ?_)
          refine lv_iinc (v := nI (j + 1)) (lv' := [(6, .int (nI (j + 1))), (5, .int (bI (hcR (sh g) i (j + 1)))), (0, .ref (q 0)), (1, .int (nI g)), (2, .int f1), (3, .int l1), (4, .int (nI i))]) hx hb dX1_widthOf_57 hl (k := 6) rfl (nI_inc _) (by decide) rfl (fun ls hl => ?_)
          refine lv_goto (tgt := 19) hx hb dX1_widthOf_60 (by decide) ?_
          exact ih_19 _ (by omega) (lv_sub hl [2, 3, 4, 5, 6, 1, 0] rfl)
set_option maxHeartbeats 4000000 in
set_option maxRecDepth 100000 in
theorem c_X1_widthOfText (l : Launch) (D : va_G) (cI cZ : ClassId) (q : Nat → Nat) (th : Int32) (sh sp ld nm nk tx mn ds ct : Nat → Int32) (co : Int64) (st at0 ha : Int32) (tk : Nat → Int32) (t k : Nat) (ht : t < 32768) (hk : k ≤ 5) : k_M l yX1_widthOfText wsX1_widthOfText ({ frames := 2, cells := 0, slots := 0, locals := 44 } : Room) [.ref (q 0), .int (nI t), .int (nI k)] (k_B D (wm cI cZ q th sh sp ld nm nk tx mn ds ct co st at0 ha tk) [(cI, .int), (cZ, .boolean)]) (some (.int (pwR (wdR sh) sp t k k))) := by
  refine k_head (cc := cX1_widthOfText) (maxL := 5) (ret := some .int) [(0, .ref (q 0)), (1, .int (nI t)), (2, .int (nI k))] (by decide) rfl (Nat.le_of_ble_eq_true rfl) rfl ?_
  intro p e s m below meth c ls hx hb hr hml hown hts hlocks hname hB hl
  have hown : s.vm.findClass RX1 = some m.cls := hown
  obtain ⟨hP, hK⟩ := hB
  have hin : ∀ w ∈ wsX10, w ∈ wsX1_widthOfText := fun w h => List.mem_cons_of_mem _ (List.mem_append_right _ h)
  refine lv_iconst (v := nI 0) hx hb dX1_widthOfText_0 (by decide) ?_
  refine lv_istore_n (lv' := [(3, .int (nI 0)), (0, .ref (q 0)), (1, .int (nI t)), (2, .int (nI k))]) hx hb dX1_widthOfText_1 rfl hl (by decide) rfl (fun ls hl => ?_)
  refine lv_iconst (v := nI 0) hx hb dX1_widthOfText_2 (by decide) ?_
  refine lv_istore (lv' := [(4, .int (nI 0)), (3, .int (nI 0)), (0, .ref (q 0)), (1, .int (nI t)), (2, .int (nI k))]) hx hb dX1_widthOfText_3 hl (by decide) rfl (fun ls hl => ?_)
  refine W.loop (fun i ls => ∃ (v3 : Int32), (v3 = pwR (wdR sh) sp t k i) ∧ lv_has ls 5 [(0, .ref (q 0)), (1, .int (nI t)), (2, .int (nI k)), (3, .int v3), (4, .int (nI i))]) (k) (0) (by omega) ⟨nI 0, rfl, lv_sub hl [2, 3, 4, 1, 0] rfl⟩ ?_
  intro i ls hi_5 hI_5 ih_5
  obtain ⟨v3, hf0_5, hl⟩ := hI_5
  refine lv_iload hx hb dX1_widthOfText_5 (lv_at hl 4 rfl) ?_
  refine lv_iload_n hx hb dX1_widthOfText_7 rfl (lv_at hl 2 rfl) ?_
  refine n_icmp_ge (tgt := 68) hx hb dX1_widthOfText_8 (by decide) (by omega) (by omega) (fun c_8 => ?_) (fun c_8 => ?_)
  · refine lv_iload_n hx hb dX1_widthOfText_68 rfl (lv_at hl 3 rfl) ?_
    exact k_iret hx hb hr hlocks dX1_widthOfText_69 (by rw [hf0_5, show i = k from by omega])
  · refine lv_iload_n hx hb dX1_widthOfText_11 rfl (lv_at hl 3 rfl) ?_
    refine lv_aload_n hx hb dX1_widthOfText_12 rfl (lv_at hl 0 rfl) ?_
    refine lv_iload_n hx hb dX1_widthOfText_13 rfl (lv_at hl 1 rfl) ?_
    refine lv_iload_n hx hb dX1_widthOfText_14 rfl (lv_at hl 2 rfl) ?_
    refine lv_iload hx hb dX1_widthOfText_15 (lv_at hl 4 rfl) ?_
    refine k_callSi (As := [.int (nI t), .int (nI k), .int (nI i)]) (rest := [.ref (q 0), .int v3]) ⟨hx, hb, hml, hown, hts⟩ (c_X1_glyph l t k i (by omega) (by omega) (by omega)) (va_cwS 3 hts gX1_widthOfText_X1_glyph rfl rfl rfl (by decide +kernel) ⟨Nat.le_of_ble_eq_true rfl, Nat.le_of_ble_eq_true rfl⟩) k_bl_tt (fun _ _ _ => trivial) rfl hl.1 rfl (Nat.le_of_ble_eq_true rfl) dX1_widthOfText_17 ⟨Nat.zero_le _, Nat.zero_le _⟩ ?_
    refine k_callVi (As := [.int (nI (dg t (k - 1 - i)))]) (rest := [.int v3]) ⟨hx, hb, hml, hown, hts⟩ (c_X1_widthOf l D cI cZ q th sh sp ld nm nk tx mn ds ct co st at0 ha tk (dg t (k - 1 - i)) (dg_lt _ _)) (cwV 1 hts gX1_widthOfText_X1_widthOf rfl rfl rfl (by decide +kernel) ⟨Nat.le_of_ble_eq_true rfl, Nat.le_of_ble_eq_true rfl⟩) k_B_bl (k_B_of hP hK) (va_recv hK hP (ci := 1) (q0 := 0) rfl rfl) rfl hl.1 rfl (Nat.le_of_ble_eq_true rfl) dX1_widthOfText_20 ⟨Nat.zero_le _, Nat.zero_le _⟩ ?_
    refine lv_iadd hx hb dX1_widthOfText_23 ?_
    refine lv_istore_n (lv' := [(3, .int (v3 + (wdF (hcW (sh (dg t (k - 1 - i))))))), (0, .ref (q 0)), (1, .int (nI t)), (2, .int (nI k)), (4, .int (nI i))]) hx hb dX1_widthOfText_24 rfl hl (by decide) rfl (fun ls hl => ?_)
    refine lv_iload_n hx hb dX1_widthOfText_25 rfl (lv_at hl 0 rfl) ?_
    refine lv_iload hx hb dX1_widthOfText_26 (lv_at hl 4 rfl) ?_
    refine n_if_le (tgt := 59) hx hb dX1_widthOfText_28 (by decide) (by omega) (fun c_28 => ?_) (fun c_28 => ?_)
    · refine lv_iconst (v := nI 0) hx hb dX1_widthOfText_59 (by decide) ?_
      refine lv_iadd hx hb dX1_widthOfText_60 ?_
      refine lv_istore_n (lv' := [(3, .int ((v3 + (wdF (hcW (sh (dg t (k - 1 - i)))))) + (nI 0))), (0, .ref (q 0)), (1, .int (nI t)), (2, .int (nI k)), (4, .int (nI i))]) hx hb dX1_widthOfText_61 rfl hl (by decide) rfl (fun ls hl => ?_)
      refine lv_iinc (v := nI (i + 1)) (lv' := [(4, .int (nI (i + 1))), (3, .int ((v3 + (wdF (hcW (sh (dg t (k - 1 - i)))))) + (nI 0))), (0, .ref (q 0)), (1, .int (nI t)), (2, .int (nI k))]) hx hb dX1_widthOfText_62 hl (k := 4) rfl (nI_inc _) (by decide) rfl (fun ls hl => ?_)
      refine lv_goto (tgt := 5) hx hb dX1_widthOfText_65 (by decide) ?_
      exact ih_5 _ (by omega) ⟨(v3 + (wdF (hcW (sh (dg t (k - 1 - i)))))) + (nI 0), by rw [pwR_z c_28, ← hf0_5], lv_sub hl [2, 3, 4, 1, 0] rfl⟩
    · refine lv_aload_n hx hb dX1_widthOfText_31 rfl (lv_at hl 1 rfl) ?_
      refine va_get (D := D) (ci := 1) (v := .ref (q 2)) (C := RX1) (T := TX1) (N := 15) hx hb hts hin hown hK hP 0 rfl rfl 2 (by decide) (hts (.fieldLink RX1 13 "SignRailModel" "spaces" "[I") (by decide +kernel)) (fun _ h9 => h9) rfl dX1_widthOfText_32 ?_
      refine lv_bipush (v := nI 8) hx hb dX1_widthOfText_35 (by decide) ?_
      refine lv_iload_n hx hb dX1_widthOfText_37 rfl (lv_at hl 2 rfl) ?_
      refine lv_iload_n hx hb dX1_widthOfText_38 rfl (lv_at hl 3 rfl) ?_
      refine lv_iload hx hb dX1_widthOfText_39 (lv_at hl 4 rfl) ?_
      refine lv_iconst (v := nI 1) hx hb dX1_widthOfText_41 (by decide) ?_
      refine lv_isub hx hb dX1_widthOfText_42 ?_
      refine lv_as (y := nI (i - 1)) (pk_sub (by omega)) ?_
      refine k_callSi (As := [.int (nI t), .int (nI k), .int (nI (i - 1))]) (rest := [.int (nI 8), .ref (q 2), .int (v3 + (wdF (hcW (sh (dg t (k - 1 - i))))))]) ⟨hx, hb, hml, hown, hts⟩ (c_X1_glyph l t k (i - 1) (by omega) (by omega) (by omega)) (va_cwS 3 hts gX1_widthOfText_X1_glyph rfl rfl rfl (by decide +kernel) ⟨Nat.le_of_ble_eq_true rfl, Nat.le_of_ble_eq_true rfl⟩) k_bl_tt (fun _ _ _ => trivial) rfl hl.1 rfl (Nat.le_of_ble_eq_true rfl) dX1_widthOfText_43 ⟨Nat.zero_le _, Nat.zero_le _⟩ ?_
      refine lv_imul hx hb dX1_widthOfText_46 ?_
      refine lv_as (y := nI (8 * (dg t (k - 1 - (i - 1))))) (pk_mul _ _) ?_
      refine lv_iload_n hx hb dX1_widthOfText_47 rfl (lv_at hl 2 rfl) ?_
      refine lv_iload_n hx hb dX1_widthOfText_48 rfl (lv_at hl 3 rfl) ?_
      refine lv_iload hx hb dX1_widthOfText_49 (lv_at hl 4 rfl) ?_
      refine k_callSi (As := [.int (nI t), .int (nI k), .int (nI i)]) (rest := [.int (nI (8 * (dg t (k - 1 - (i - 1))))), .ref (q 2), .int (v3 + (wdF (hcW (sh (dg t (k - 1 - i))))))]) ⟨hx, hb, hml, hown, hts⟩ (c_X1_glyph l t k i (by omega) (by omega) (by omega)) (va_cwS 3 hts gX1_widthOfText_X1_glyph rfl rfl rfl (by decide +kernel) ⟨Nat.le_of_ble_eq_true rfl, Nat.le_of_ble_eq_true rfl⟩) k_bl_tt (fun _ _ _ => trivial) rfl hl.1 rfl (Nat.le_of_ble_eq_true rfl) dX1_widthOfText_51 ⟨Nat.zero_le _, Nat.zero_le _⟩ ?_
      refine lv_iadd hx hb dX1_widthOfText_54 ?_
      refine lv_as (y := nI ((8 * (dg t (k - 1 - (i - 1)))) + (dg t (k - 1 - i)))) (nI_add _ _) ?_
      refine n_iald hx hb hK hP 2 0 rfl rfl (k := ((8 * (dg t (k - 1 - (i - 1)))) + (dg t (k - 1 - i)))) (by have h1 := dg_lt t (k - 1 - i); have h2 := dg_lt t (k - 1 - (i - 1)); omega) (Nat.le_of_ble_eq_true rfl) dX1_widthOfText_55 ?_
      refine lv_goto (tgt := 60) hx hb dX1_widthOfText_56 (by decide) ?_
      refine lv_iadd hx hb dX1_widthOfText_60 ?_
      refine lv_istore_n (lv' := [(3, .int ((v3 + (wdF (hcW (sh (dg t (k - 1 - i)))))) + (sp ((8 * (dg t (k - 1 - (i - 1)))) + (dg t (k - 1 - i)))))), (0, .ref (q 0)), (1, .int (nI t)), (2, .int (nI k)), (4, .int (nI i))]) hx hb dX1_widthOfText_61 rfl hl (by decide) rfl (fun ls hl => ?_)
      refine lv_iinc (v := nI (i + 1)) (lv' := [(4, .int (nI (i + 1))), (3, .int ((v3 + (wdF (hcW (sh (dg t (k - 1 - i)))))) + (sp ((8 * (dg t (k - 1 - (i - 1)))) + (dg t (k - 1 - i)))))), (0, .ref (q 0)), (1, .int (nI t)), (2, .int (nI k))]) hx hb dX1_widthOfText_62 hl (k := 4) rfl (nI_inc _) (by decide) rfl (fun ls hl => ?_)
      refine lv_goto (tgt := 5) hx hb dX1_widthOfText_65 (by decide) ?_
      exact ih_5 _ (by omega) ⟨(v3 + (wdF (hcW (sh (dg t (k - 1 - i)))))) + (sp ((8 * (dg t (k - 1 - (i - 1)))) + (dg t (k - 1 - i)))), by rw [pwR_p c_28, ← hf0_5], lv_sub hl [2, 3, 4, 1, 0] rfl⟩
set_option maxHeartbeats 4000000 in
set_option maxRecDepth 100000 in
theorem c_X1_plate (l : Launch) (D : va_G) (cI cZ : ClassId) (q : Nat → Nat) (th : Int32) (sh sp ld nm nk tx mn ds ct : Nat → Int32) (co : Int64) (st at0 ha : Int32) (tk : Nat → Int32) (t k : Nat) (ht : t < 32768) (hk : k ≤ 5) : k_M l yX1_plate wsX1_plate ({ frames := 3, cells := 0, slots := 0, locals := 68 } : Room) [.ref (q 0), .int (nI t), .int (nI k)] (k_B D (wm cI cZ q th sh sp ld nm nk tx mn ds ct co st at0 ha tk) [(cI, .int), (cZ, .boolean)]) (some (.int (plF (pwR (wdR sh) sp t k k)))) := by
  refine k_head (cc := cX1_plate) (maxL := 4) (ret := some .int) [(0, .ref (q 0)), (1, .int (nI t)), (2, .int (nI k))] (by decide) rfl (Nat.le_of_ble_eq_true rfl) rfl ?_
  intro p e s m below meth c ls hx hb hr hml hown hts hlocks hname hB hl
  have hown : s.vm.findClass RX1 = some m.cls := hown
  obtain ⟨hP, hK⟩ := hB
  have hin : ∀ w ∈ wsX10, w ∈ wsX1_plate := fun w h => List.mem_cons_of_mem _ (List.mem_append_right _ h)
  refine lv_aload_n hx hb dX1_plate_0 rfl (lv_at hl 0 rfl) ?_
  refine lv_iload_n hx hb dX1_plate_1 rfl (lv_at hl 1 rfl) ?_
  refine lv_iload_n hx hb dX1_plate_2 rfl (lv_at hl 2 rfl) ?_
  refine k_callVi (As := [.int (nI t), .int (nI k)]) (rest := []) ⟨hx, hb, hml, hown, hts⟩ (c_X1_widthOfText l D cI cZ q th sh sp ld nm nk tx mn ds ct co st at0 ha tk t k (by omega) (by omega)) (cwV 2 hts gX1_plate_X1_widthOfText rfl rfl rfl (by decide +kernel) ⟨Nat.le_of_ble_eq_true rfl, Nat.le_of_ble_eq_true rfl⟩) k_B_bl (k_B_of hP hK) (va_recv hK hP (ci := 1) (q0 := 0) rfl rfl) rfl hl.1 rfl (Nat.le_of_ble_eq_true rfl) dX1_plate_3 ⟨Nat.zero_le _, Nat.zero_le _⟩ ?_
  refine lv_istore_n (lv' := [(3, .int (pwR (wdR sh) sp t k k)), (0, .ref (q 0)), (1, .int (nI t)), (2, .int (nI k))]) hx hb dX1_plate_6 rfl hl (by decide) rfl (fun ls hl => ?_)
  refine lv_iload_n hx hb dX1_plate_7 rfl (lv_at hl 0 rfl) ?_
  refine lv_bipush (v := nI 10) hx hb dX1_plate_8 (by decide) ?_
  refine lv_icmp_gt (tgt := 17) hx hb dX1_plate_10 (by decide) (fun c_10 => ?_) (fun c_10 => ?_)
  · refine lv_iload_n hx hb dX1_plate_17 rfl (lv_at hl 0 rfl) ?_
    refine lv_bipush (v := nI 20) hx hb dX1_plate_18 (by decide) ?_
    refine lv_icmp_gt (tgt := 28) hx hb dX1_plate_20 (by decide) (fun c_20 => ?_) (fun c_20 => ?_)
    · refine lv_iload_n hx hb dX1_plate_28 rfl (lv_at hl 0 rfl) ?_
      refine lv_bipush (v := nI 30) hx hb dX1_plate_29 (by decide) ?_
      refine lv_icmp_gt (tgt := 39) hx hb dX1_plate_31 (by decide) (fun c_31 => ?_) (fun c_31 => ?_)
      · refine lv_iconst (v := (-1)) hx hb dX1_plate_39 (by decide) ?_
        exact k_iret hx hb hr hlocks dX1_plate_40 (by rw [plF, if_pos c_10, if_pos c_20, if_pos c_31])
      · refine lv_bipush (v := nI 10) hx hb dX1_plate_34 (by decide) ?_
        refine lv_goto (tgt := 40) hx hb dX1_plate_36 (by decide) ?_
        exact k_iret hx hb hr hlocks dX1_plate_40 (by rw [plF, if_pos c_10, if_pos c_20, if_neg c_31])
    · refine lv_bipush (v := nI 7) hx hb dX1_plate_23 (by decide) ?_
      refine lv_goto (tgt := 40) hx hb dX1_plate_25 (by decide) ?_
      exact k_iret hx hb hr hlocks dX1_plate_40 (by rw [plF, if_pos c_10, if_neg c_20])
  · refine lv_iconst (v := nI 4) hx hb dX1_plate_13 (by decide) ?_
    refine lv_goto (tgt := 40) hx hb dX1_plate_14 (by decide) ?_
    exact k_iret hx hb hr hlocks dX1_plate_40 (by rw [plF, if_neg c_10])
set_option maxHeartbeats 4000000 in
set_option maxRecDepth 100000 in
theorem c_X1_old (l : Launch) (D : va_G) (cI cZ : ClassId) (q : Nat → Nat) (th : Int32) (sh sp ld nm nk tx mn ds ct : Nat → Int32) (co : Int64) (st at0 ha : Int32) (tk : Nat → Int32) (w t k : Nat) (hw : w < 32) (ht : t < 32768) (hk : k ≤ 5) (htx : tx w = nI t) (hmn : mn w = nI k) : k_M l yX1_old wsX1_old ({ frames := 2, cells := 0, slots := 0, locals := 44 } : Room) [.ref (q 0), .int (nI w)] (k_B D (wm cI cZ q th sh sp ld nm nk tx mn ds ct co st at0 ha tk) [(cI, .int), (cZ, .boolean)]) (some (.int (bI (anyB (oldR sh ct w t k) k)))) := by
  refine k_head (cc := cX1_old) (maxL := 4) (ret := some .boolean) [(0, .ref (q 0)), (1, .int (nI w))] (by decide) rfl (Nat.le_of_ble_eq_true rfl) rfl ?_
  intro p e s m below meth c ls hx hb hr hml hown hts hlocks hname hB hl
  have hown : s.vm.findClass RX1 = some m.cls := hown
  obtain ⟨hP, hK⟩ := hB
  have hin : ∀ w ∈ wsX10, w ∈ wsX1_old := fun w h => List.mem_cons_of_mem _ (List.mem_append_right _ h)
  refine lv_iconst (v := nI 0) hx hb dX1_old_0 (by decide) ?_
  refine lv_istore_n (lv' := [(2, .int (nI 0)), (0, .ref (q 0)), (1, .int (nI w))]) hx hb dX1_old_1 rfl hl (by decide) rfl (fun ls hl => ?_)
  refine lv_iconst (v := nI 0) hx hb dX1_old_2 (by decide) ?_
  refine lv_istore_n (lv' := [(3, .int (nI 0)), (2, .int (nI 0)), (0, .ref (q 0)), (1, .int (nI w))]) hx hb dX1_old_3 rfl hl (by decide) rfl (fun ls hl => ?_)
  refine W.loop (fun i ls => lv_has ls 4 [(0, .ref (q 0)), (1, .int (nI w)), (2, .int (bI (anyB (oldR sh ct w t k) i))), (3, .int (nI i))]) (k) (0) (by omega) (lv_sub hl [2, 3, 1, 0] rfl) ?_
  intro i ls hi_4 hI_4 ih_4
  have hl := hI_4
  refine lv_iload_n hx hb dX1_old_4 rfl (lv_at hl 3 rfl) ?_
  refine lv_aload_n hx hb dX1_old_5 rfl (lv_at hl 0 rfl) ?_
  refine va_get (D := D) (ci := 1) (v := .ref (q 7)) (C := RX1) (T := TX1) (N := 15) hx hb hts hin hown hK hP 0 rfl rfl 7 (by decide) (hts (.fieldLink RX1 28 "SignRailModel" "many" "[I") (by decide +kernel)) (fun _ h9 => h9) rfl dX1_old_6 ?_
  refine lv_iload_n hx hb dX1_old_9 rfl (lv_at hl 1 rfl) ?_
  refine n_iald hx hb hK hP 7 0 rfl rfl (k := w) (by omega) (Nat.le_of_ble_eq_true rfl) dX1_old_10 ?_
  refine lv_as (y := nI k) (hmn) ?_
  refine n_icmp_ge (tgt := 64) hx hb dX1_old_11 (by decide) (by omega) (by omega) (fun c_11 => ?_) (fun c_11 => ?_)
  · refine lv_iload_n hx hb dX1_old_64 rfl (lv_at hl 2 rfl) ?_
    exact k_zret hx hb hr hlocks dX1_old_65 (by rw [show i = k from by omega])
  · refine lv_iload_n hx hb dX1_old_14 rfl (lv_at hl 2 rfl) ?_
    refine b_if_ne (tgt := 52) hx hb dX1_old_15 (by decide) (fun c_15 => ?_) (fun c_15 => ?_)
    · refine lv_iconst (v := nI 1) hx hb dX1_old_52 (by decide) ?_
      refine lv_as (y := bI (anyB (oldR sh ct w t k) (i + 1))) (by first | (rw [anyB, c_15]; rfl) | (rw [anyB, show oldR sh ct w t k i = true from decide_eq_true c_49, Bool.or_true]; rfl)) ?_
      refine lv_goto (tgt := 57) hx hb dX1_old_53 (by decide) ?_
      refine lv_istore_n (lv' := [(2, .int (bI (anyB (oldR sh ct w t k) (i + 1)))), (0, .ref (q 0)), (1, .int (nI w)), (3, .int (nI i))]) hx hb dX1_old_57 rfl hl (by decide) rfl (fun ls hl => ?_)
      refine lv_iinc (v := nI (i + 1)) (lv' := [(3, .int (nI (i + 1))), (2, .int (bI (anyB (oldR sh ct w t k) (i + 1)))), (0, .ref (q 0)), (1, .int (nI w))]) hx hb dX1_old_58 hl (k := 3) rfl (nI_inc _) (by decide) rfl (fun ls hl => ?_)
      refine lv_goto (tgt := 4) hx hb dX1_old_61 (by decide) ?_
      exact ih_4 _ (by omega) (lv_sub hl [2, 3, 1, 0] rfl)
    · refine lv_aload_n hx hb dX1_old_18 rfl (lv_at hl 0 rfl) ?_
      refine va_get (D := D) (ci := 1) (v := .ref (q 9)) (C := RX1) (T := TX1) (N := 15) hx hb hts hin hown hK hP 0 rfl rfl 9 (by decide) (hts (.fieldLink RX1 34 "SignRailModel" "cuts" "[I") (by decide +kernel)) (fun _ h9 => h9) rfl dX1_old_19 ?_
      refine lv_iconst (v := nI 5) hx hb dX1_old_22 (by decide) ?_
      refine lv_iload_n hx hb dX1_old_23 rfl (lv_at hl 1 rfl) ?_
      refine lv_imul hx hb dX1_old_24 ?_
      refine lv_as (y := nI (5 * w)) (pk_mul _ _) ?_
      refine lv_iload_n hx hb dX1_old_25 rfl (lv_at hl 3 rfl) ?_
      refine lv_iadd hx hb dX1_old_26 ?_
      refine lv_as (y := nI ((5 * w) + i)) (nI_add _ _) ?_
      refine n_iald hx hb hK hP 9 0 rfl rfl (k := ((5 * w) + i)) (by omega) (Nat.le_of_ble_eq_true rfl) dX1_old_27 ?_
      refine lv_aload_n hx hb dX1_old_28 rfl (lv_at hl 0 rfl) ?_
      refine va_get (D := D) (ci := 1) (v := .ref (q 1)) (C := RX1) (T := TX1) (N := 15) hx hb hts hin hown hK hP 0 rfl rfl 1 (by decide) (hts (.fieldLink RX1 7 "SignRailModel" "shapes" "[I") (by decide +kernel)) (fun _ h9 => h9) rfl dX1_old_29 ?_
      refine lv_aload_n hx hb dX1_old_32 rfl (lv_at hl 0 rfl) ?_
      refine va_get (D := D) (ci := 1) (v := .ref (q 6)) (C := RX1) (T := TX1) (N := 15) hx hb hts hin hown hK hP 0 rfl rfl 6 (by decide) (hts (.fieldLink RX1 25 "SignRailModel" "texts" "[I") (by decide +kernel)) (fun _ h9 => h9) rfl dX1_old_33 ?_
      refine lv_iload_n hx hb dX1_old_36 rfl (lv_at hl 1 rfl) ?_
      refine n_iald hx hb hK hP 6 0 rfl rfl (k := w) (by omega) (Nat.le_of_ble_eq_true rfl) dX1_old_37 ?_
      refine lv_as (y := nI t) (htx) ?_
      refine lv_aload_n hx hb dX1_old_38 rfl (lv_at hl 0 rfl) ?_
      refine va_get (D := D) (ci := 1) (v := .ref (q 7)) (C := RX1) (T := TX1) (N := 15) hx hb hts hin hown hK hP 0 rfl rfl 7 (by decide) (hts (.fieldLink RX1 28 "SignRailModel" "many" "[I") (by decide +kernel)) (fun _ h9 => h9) rfl dX1_old_39 ?_
      refine lv_iload_n hx hb dX1_old_42 rfl (lv_at hl 1 rfl) ?_
      refine n_iald hx hb hK hP 7 0 rfl rfl (k := w) (by omega) (Nat.le_of_ble_eq_true rfl) dX1_old_43 ?_
      refine lv_as (y := nI k) (hmn) ?_
      refine lv_iload_n hx hb dX1_old_44 rfl (lv_at hl 3 rfl) ?_
      refine k_callSi (As := [.int (nI t), .int (nI k), .int (nI i)]) (rest := [.ref (q 1), .int (ct ((5 * w) + i))]) ⟨hx, hb, hml, hown, hts⟩ (c_X1_glyph l t k i (by omega) (by omega) (by omega)) (va_cwS 3 hts gX1_old_X1_glyph rfl rfl rfl (by decide +kernel) ⟨Nat.le_of_ble_eq_true rfl, Nat.le_of_ble_eq_true rfl⟩) k_bl_tt (fun _ _ _ => trivial) rfl hl.1 rfl (Nat.le_of_ble_eq_true rfl) dX1_old_45 ⟨Nat.zero_le _, Nat.zero_le _⟩ ?_
      refine n_iald hx hb hK hP 1 0 rfl rfl (k := (dg t (k - 1 - i))) (dg_lt _ _) (Nat.le_of_ble_eq_true rfl) dX1_old_48 ?_
      refine lv_icmp_eq (tgt := 56) hx hb dX1_old_49 (by decide) (fun c_49 => ?_) (fun c_49 => ?_)
      · refine lv_iconst (v := nI 0) hx hb dX1_old_56 (by decide) ?_
        refine lv_as (y := bI (anyB (oldR sh ct w t k) (i + 1))) (by rw [anyB, c_15, show oldR sh ct w t k i = false from decide_eq_false (fun q => q c_49)]; rfl) ?_
        refine lv_istore_n (lv' := [(2, .int (bI (anyB (oldR sh ct w t k) (i + 1)))), (0, .ref (q 0)), (1, .int (nI w)), (3, .int (nI i))]) hx hb dX1_old_57 rfl hl (by decide) rfl (fun ls hl => ?_)
        refine lv_iinc (v := nI (i + 1)) (lv' := [(3, .int (nI (i + 1))), (2, .int (bI (anyB (oldR sh ct w t k) (i + 1)))), (0, .ref (q 0)), (1, .int (nI w))]) hx hb dX1_old_58 hl (k := 3) rfl (nI_inc _) (by decide) rfl (fun ls hl => ?_)
        refine lv_goto (tgt := 4) hx hb dX1_old_61 (by decide) ?_
        exact ih_4 _ (by omega) (lv_sub hl [2, 3, 1, 0] rfl)
      · refine lv_iconst (v := nI 1) hx hb dX1_old_52 (by decide) ?_
        refine lv_as (y := bI (anyB (oldR sh ct w t k) (i + 1))) (by first | (rw [anyB, c_15]; rfl) | (rw [anyB, show oldR sh ct w t k i = true from decide_eq_true c_49, Bool.or_true]; rfl)) ?_
        refine lv_goto (tgt := 57) hx hb dX1_old_53 (by decide) ?_
        refine lv_istore_n (lv' := [(2, .int (bI (anyB (oldR sh ct w t k) (i + 1)))), (0, .ref (q 0)), (1, .int (nI w)), (3, .int (nI i))]) hx hb dX1_old_57 rfl hl (by decide) rfl (fun ls hl => ?_)
        refine lv_iinc (v := nI (i + 1)) (lv' := [(3, .int (nI (i + 1))), (2, .int (bI (anyB (oldR sh ct w t k) (i + 1)))), (0, .ref (q 0)), (1, .int (nI w))]) hx hb dX1_old_58 hl (k := 3) rfl (nI_inc _) (by decide) rfl (fun ls hl => ?_)
        refine lv_goto (tgt := 4) hx hb dX1_old_61 (by decide) ?_
        exact ih_4 _ (by omega) (lv_sub hl [2, 3, 1, 0] rfl)
set_option maxHeartbeats 4000000 in
set_option maxRecDepth 100000 in
theorem c_X1_nearest (l : Launch) (D : va_G) (cI cZ : ClassId) (q : Nat → Nat) (th : Int32) (sh sp ld nm nk tx mn ds ct : Nat → Int32) (co : Int64) (st at0 ha : Int32) (tk : Nat → Int32) (x : Int32) (b : Nat) (hb8 : b ≤ 8) : k_M l yX1_nearest wsX1_nearest ({ frames := 1, cells := 0, slots := 0, locals := 22 } : Room) [.ref (q 0), .int x, .int (ix b)] (k_B D (wm cI cZ q th sh sp ld nm nk tx mn ds ct co st at0 ha tk) [(cI, .int), (cZ, .boolean)]) (some (.int (ix (nrN (dR sh x) b 8)))) := by
  refine k_head (cc := cX1_nearest) (maxL := 6) (ret := some .int) [(0, .ref (q 0)), (1, .int x), (2, .int (ix b))] (by decide) rfl (Nat.le_of_ble_eq_true rfl) rfl ?_
  intro p e s m below meth c ls hx hb hr hml hown hts hlocks hname hB hl
  have hown : s.vm.findClass RX1 = some m.cls := hown
  obtain ⟨hP, hK⟩ := hB
  have hin : ∀ w ∈ wsX10, w ∈ wsX1_nearest := fun w h => List.mem_cons_of_mem _ (List.mem_append_right _ h)
  refine lv_iconst (v := (-1)) hx hb dX1_nearest_0 (by decide) ?_
  refine lv_istore_n (lv' := [(3, .int (-1)), (0, .ref (q 0)), (1, .int x), (2, .int (ix b))]) hx hb dX1_nearest_1 rfl hl (by decide) rfl (fun ls hl => ?_)
  refine lv_iconst (v := nI 0) hx hb dX1_nearest_2 (by decide) ?_
  refine lv_istore (lv' := [(4, .int (nI 0)), (3, .int (-1)), (0, .ref (q 0)), (1, .int x), (2, .int (ix b))]) hx hb dX1_nearest_3 hl (by decide) rfl (fun ls hl => ?_)
  refine W.loop (fun i ls => ∃ (n : Nat), (n = nrN (dR sh x) b i) ∧ (n ≤ 8) ∧ lv_has ls 6 [(0, .ref (q 0)), (1, .int x), (2, .int (ix b)), (3, .int (ix n)), (4, .int (nI i))]) (8) (0) (by omega) ⟨8, rfl, Nat.le_refl 8, lv_sub hl [2, 3, 4, 1, 0] rfl⟩ ?_
  intro i ls hi_5 hI_5 ih_5
  obtain ⟨n, hf0_5, hf1_5, hl⟩ := hI_5
  refine lv_iload hx hb dX1_nearest_5 (lv_at hl 4 rfl) ?_
  refine lv_bipush (v := nI 8) hx hb dX1_nearest_7 (by decide) ?_
  refine n_icmp_ge (tgt := 74) hx hb dX1_nearest_9 (by decide) (by omega) (by omega) (fun c_9 => ?_) (fun c_9 => ?_)
  · refine lv_iload_n hx hb dX1_nearest_74 rfl (lv_at hl 3 rfl) ?_
    exact k_iret hx hb hr hlocks dX1_nearest_75 (by rw [hf0_5, show i = 8 from by omega])
  · refine lv_iload hx hb dX1_nearest_12 (lv_at hl 4 rfl) ?_
    refine lv_iload_n hx hb dX1_nearest_14 rfl (lv_at hl 2 rfl) ?_
    refine lv_icmp_eq (tgt := 53) hx hb dX1_nearest_15 (by decide) (fun c_15 => ?_) (fun c_15 => ?_)
    · refine lv_iconst (v := nI 0) hx hb dX1_nearest_53 (by decide) ?_
      refine lv_istore (lv' := [(5, .int (nI 0)), (0, .ref (q 0)), (1, .int x), (2, .int (ix b)), (3, .int (ix n)), (4, .int (nI i))]) hx hb dX1_nearest_54 hl (by decide) rfl (fun ls hl => ?_)
      refine lv_iload hx hb dX1_nearest_56 (lv_at hl 0 rfl) ?_
      refine n_if_eq (tgt := 66) hx hb dX1_nearest_58 (by decide) (by decide) (fun _ => ?_) (fun c_58 => absurd c_58 (by decide))
      refine lv_iload_n hx hb dX1_nearest_66 rfl (lv_at hl 4 rfl) ?_
      refine lv_istore_n (lv' := [(3, .int (ix n)), (5, .int (nI 0)), (0, .ref (q 0)), (1, .int x), (2, .int (ix b)), (4, .int (nI i))]) hx hb dX1_nearest_67 rfl hl (by decide) rfl (fun ls hl => ?_)
      refine lv_iinc (v := nI (i + 1)) (lv' := [(4, .int (nI (i + 1))), (3, .int (ix n)), (5, .int (nI 0)), (0, .ref (q 0)), (1, .int x), (2, .int (ix b))]) hx hb dX1_nearest_68 hl (k := 5) rfl (nI_inc _) (by decide) rfl (fun ls hl => ?_)
      refine lv_goto (tgt := 5) hx hb dX1_nearest_71 (by decide) ?_
      exact ih_5 _ (by omega) ⟨n, by rw [nr_eq ((ix_eq hb8 c_9).mp c_15)]; exact hf0_5, hf1_5, lv_sub hl [3, 4, 5, 1, 0] rfl⟩
    · refine lv_iload_n hx hb dX1_nearest_18 rfl (lv_at hl 3 rfl) ?_
      refine lv_iconst (v := (-1)) hx hb dX1_nearest_19 (by decide) ?_
      refine lv_icmp_eq (tgt := 49) hx hb dX1_nearest_20 (by decide) (fun c_20 => ?_) (fun c_20 => ?_)
      · refine lv_iconst (v := nI 1) hx hb dX1_nearest_49 (by decide) ?_
        refine lv_goto (tgt := 54) hx hb dX1_nearest_50 (by decide) ?_
        refine lv_istore (lv' := [(5, .int (nI 1)), (0, .ref (q 0)), (1, .int x), (2, .int (ix b)), (3, .int (ix n)), (4, .int (nI i))]) hx hb dX1_nearest_54 hl (by decide) rfl (fun ls hl => ?_)
        refine lv_iload hx hb dX1_nearest_56 (lv_at hl 0 rfl) ?_
        refine n_if_eq (tgt := 66) hx hb dX1_nearest_58 (by decide) (by decide) (fun c_58 => absurd c_58 (by decide)) (fun _ => ?_)
        refine lv_iload hx hb dX1_nearest_61 (lv_at hl 5 rfl) ?_
        refine lv_as (y := ix i) ((ix_lt c_9).symm) ?_
        refine lv_goto (tgt := 67) hx hb dX1_nearest_63 (by decide) ?_
        refine lv_istore_n (lv' := [(3, .int (ix i)), (5, .int (nI 1)), (0, .ref (q 0)), (1, .int x), (2, .int (ix b)), (4, .int (nI i))]) hx hb dX1_nearest_67 rfl hl (by decide) rfl (fun ls hl => ?_)
        refine lv_iinc (v := nI (i + 1)) (lv' := [(4, .int (nI (i + 1))), (3, .int (ix i)), (5, .int (nI 1)), (0, .ref (q 0)), (1, .int x), (2, .int (ix b))]) hx hb dX1_nearest_68 hl (k := 5) rfl (nI_inc _) (by decide) rfl (fun ls hl => ?_)
        refine lv_goto (tgt := 5) hx hb dX1_nearest_71 (by decide) ?_
        exact ih_5 _ (by omega) ⟨i, nr_8 (fun q => c_15 ((ix_eq hb8 c_9).mpr q)) hf0_5 ((ix_m1 hf1_5).mp c_20), Nat.le_of_lt c_9, lv_sub hl [3, 4, 5, 1, 0] rfl⟩
      · have hn8 : n < 8 := Nat.lt_of_le_of_ne hf1_5 (fun q => c_20 ((ix_m1 hf1_5).mpr q))
        refine lv_aload_n hx hb dX1_nearest_23 rfl (lv_at hl 0 rfl) ?_
        refine va_get (D := D) (ci := 1) (v := .ref (q 1)) (C := RX1) (T := TX1) (N := 15) hx hb hts hin hown hK hP 0 rfl rfl 1 (by decide) (hts (.fieldLink RX1 7 "SignRailModel" "shapes" "[I") (by decide +kernel)) (fun _ h9 => h9) rfl dX1_nearest_24 ?_
        refine lv_iload hx hb dX1_nearest_27 (lv_at hl 4 rfl) ?_
        refine n_iald hx hb hK hP 1 0 rfl rfl (k := i) (by omega) (Nat.le_of_ble_eq_true rfl) dX1_nearest_29 ?_
        refine lv_iload_n hx hb dX1_nearest_30 rfl (lv_at hl 1 rfl) ?_
        refine lv_ixor hx hb dX1_nearest_31 ?_
        refine k_callSi (As := [.int ((sh i) ^^^ x)]) (rest := []) ⟨hx, hb, hml, hown, hts⟩ (c_X1_bits l ((sh i) ^^^ x)) (va_cwS 1 hts gX1_nearest_X1_bits rfl rfl rfl (by decide +kernel) ⟨Nat.le_of_ble_eq_true rfl, Nat.le_of_ble_eq_true rfl⟩) k_bl_tt (fun _ _ _ => trivial) rfl hl.1 rfl (Nat.le_of_ble_eq_true rfl) dX1_nearest_32 ⟨Nat.zero_le _, Nat.zero_le _⟩ ?_
        refine lv_as (y := df (sh i) x) (rfl) ?_
        refine lv_aload_n hx hb dX1_nearest_35 rfl (lv_at hl 0 rfl) ?_
        refine va_get (D := D) (ci := 1) (v := .ref (q 1)) (C := RX1) (T := TX1) (N := 15) hx hb hts hin hown hK hP 0 rfl rfl 1 (by decide) (hts (.fieldLink RX1 7 "SignRailModel" "shapes" "[I") (by decide +kernel)) (fun _ h9 => h9) rfl dX1_nearest_36 ?_
        refine lv_iload_n hx hb dX1_nearest_39 rfl (lv_at hl 3 rfl) ?_
        refine lv_as (y := nI n) (ix_lt hn8) ?_
        refine n_iald hx hb hK hP 1 0 rfl rfl (k := n) (by omega) (Nat.le_of_ble_eq_true rfl) dX1_nearest_40 ?_
        refine lv_iload_n hx hb dX1_nearest_41 rfl (lv_at hl 1 rfl) ?_
        refine lv_ixor hx hb dX1_nearest_42 ?_
        refine k_callSi (As := [.int ((sh n) ^^^ x)]) (rest := [.int (df (sh i) x)]) ⟨hx, hb, hml, hown, hts⟩ (c_X1_bits l ((sh n) ^^^ x)) (va_cwS 1 hts gX1_nearest_X1_bits rfl rfl rfl (by decide +kernel) ⟨Nat.le_of_ble_eq_true rfl, Nat.le_of_ble_eq_true rfl⟩) k_bl_tt (fun _ _ _ => trivial) rfl hl.1 rfl (Nat.le_of_ble_eq_true rfl) dX1_nearest_43 ⟨Nat.zero_le _, Nat.zero_le _⟩ ?_
        refine lv_as (y := df (sh n) x) (rfl) ?_
        refine lv_icmp_ge (tgt := 53) hx hb dX1_nearest_46 (by decide) (fun c_46 => ?_) (fun c_46 => ?_)
        · refine lv_iconst (v := nI 0) hx hb dX1_nearest_53 (by decide) ?_
          refine lv_istore (lv' := [(5, .int (nI 0)), (0, .ref (q 0)), (1, .int x), (2, .int (ix b)), (3, .int (ix n)), (4, .int (nI i))]) hx hb dX1_nearest_54 hl (by decide) rfl (fun ls hl => ?_)
          refine lv_iload hx hb dX1_nearest_56 (lv_at hl 0 rfl) ?_
          refine n_if_eq (tgt := 66) hx hb dX1_nearest_58 (by decide) (by decide) (fun _ => ?_) (fun c_58 => absurd c_58 (by decide))
          refine lv_iload_n hx hb dX1_nearest_66 rfl (lv_at hl 4 rfl) ?_
          refine lv_istore_n (lv' := [(3, .int (ix n)), (5, .int (nI 0)), (0, .ref (q 0)), (1, .int x), (2, .int (ix b)), (4, .int (nI i))]) hx hb dX1_nearest_67 rfl hl (by decide) rfl (fun ls hl => ?_)
          refine lv_iinc (v := nI (i + 1)) (lv' := [(4, .int (nI (i + 1))), (3, .int (ix n)), (5, .int (nI 0)), (0, .ref (q 0)), (1, .int x), (2, .int (ix b))]) hx hb dX1_nearest_68 hl (k := 5) rfl (nI_inc _) (by decide) rfl (fun ls hl => ?_)
          refine lv_goto (tgt := 5) hx hb dX1_nearest_71 (by decide) ?_
          exact ih_5 _ (by omega) ⟨n, nr_ge hf0_5 hn8 (le_nlt c_46), hf1_5, lv_sub hl [3, 4, 5, 1, 0] rfl⟩
        · refine lv_iconst (v := nI 1) hx hb dX1_nearest_49 (by decide) ?_
          refine lv_goto (tgt := 54) hx hb dX1_nearest_50 (by decide) ?_
          refine lv_istore (lv' := [(5, .int (nI 1)), (0, .ref (q 0)), (1, .int x), (2, .int (ix b)), (3, .int (ix n)), (4, .int (nI i))]) hx hb dX1_nearest_54 hl (by decide) rfl (fun ls hl => ?_)
          refine lv_iload hx hb dX1_nearest_56 (lv_at hl 0 rfl) ?_
          refine n_if_eq (tgt := 66) hx hb dX1_nearest_58 (by decide) (by decide) (fun c_58 => absurd c_58 (by decide)) (fun _ => ?_)
          refine lv_iload hx hb dX1_nearest_61 (lv_at hl 5 rfl) ?_
          refine lv_as (y := ix i) ((ix_lt c_9).symm) ?_
          refine lv_goto (tgt := 67) hx hb dX1_nearest_63 (by decide) ?_
          refine lv_istore_n (lv' := [(3, .int (ix i)), (5, .int (nI 1)), (0, .ref (q 0)), (1, .int x), (2, .int (ix b)), (4, .int (nI i))]) hx hb dX1_nearest_67 rfl hl (by decide) rfl (fun ls hl => ?_)
          refine lv_iinc (v := nI (i + 1)) (lv' := [(4, .int (nI (i + 1))), (3, .int (ix i)), (5, .int (nI 1)), (0, .ref (q 0)), (1, .int x), (2, .int (ix b))]) hx hb dX1_nearest_68 hl (k := 5) rfl (nI_inc _) (by decide) rfl (fun ls hl => ?_)
          refine lv_goto (tgt := 5) hx hb dX1_nearest_71 (by decide) ?_
          exact ih_5 _ (by omega) ⟨i, nr_lt (fun q => c_15 ((ix_eq hb8 c_9).mpr q)) hf0_5 (fa_of_nle c_46), Nat.le_of_lt c_9, lv_sub hl [3, 4, 5, 1, 0] rfl⟩
set_option maxHeartbeats 4000000 in
set_option maxRecDepth 100000 in
theorem c_X1_reads (l : Launch) (D : va_G) (cI cZ : ClassId) (q : Nat → Nat) (th : Int32) (sh sp ld nm nk tx mn ds ct : Nat → Int32) (co : Int64) (st at0 ha : Int32) (tk : Nat → Int32) (w k : Nat) (hw : w < 32) (hk : k ≤ 5) (hmn : mn w = nI k) : k_M l yX1_reads wsX1_reads ({ frames := 2, cells := 0, slots := 0, locals := 47 } : Room) [.ref (q 0), .int (nI w)] (k_B D (wm cI cZ q th sh sp ld nm nk tx mn ds ct co st at0 ha tk) [(cI, .int), (cZ, .boolean)]) (some (.int (nI (rrN (rdR sh ct ds w) k)))) := by
  refine k_head (cc := cX1_reads) (maxL := 8) (ret := some .int) [(0, .ref (q 0)), (1, .int (nI w))] (by decide) rfl (Nat.le_of_ble_eq_true rfl) rfl ?_
  intro p e s m below meth c ls hx hb hr hml hown hts hlocks hname hB hl
  have hown : s.vm.findClass RX1 = some m.cls := hown
  obtain ⟨hP, hK⟩ := hB
  have hin : ∀ w ∈ wsX10, w ∈ wsX1_reads := fun w h => List.mem_cons_of_mem _ (List.mem_append_right _ h)
  refine lv_iconst (v := nI 0) hx hb dX1_reads_0 (by decide) ?_
  refine lv_istore_n (lv' := [(2, .int (nI 0)), (0, .ref (q 0)), (1, .int (nI w))]) hx hb dX1_reads_1 rfl hl (by decide) rfl (fun ls hl => ?_)
  refine lv_iconst (v := nI 0) hx hb dX1_reads_2 (by decide) ?_
  refine lv_istore_n (lv' := [(3, .int (nI 0)), (2, .int (nI 0)), (0, .ref (q 0)), (1, .int (nI w))]) hx hb dX1_reads_3 rfl hl (by decide) rfl (fun ls hl => ?_)
  refine W.loop (fun i ls => lv_has ls 8 [(0, .ref (q 0)), (1, .int (nI w)), (2, .int (nI (rrN (rdR sh ct ds w) i))), (3, .int (nI i))]) (k) (0) (by omega) (lv_sub hl [2, 3, 1, 0] rfl) ?_
  intro i ls hi_4 hI_4 ih_4
  have hl := hI_4
  refine lv_iload_n hx hb dX1_reads_4 rfl (lv_at hl 3 rfl) ?_
  refine lv_aload_n hx hb dX1_reads_5 rfl (lv_at hl 0 rfl) ?_
  refine va_get (D := D) (ci := 1) (v := .ref (q 7)) (C := RX1) (T := TX1) (N := 15) hx hb hts hin hown hK hP 0 rfl rfl 7 (by decide) (hts (.fieldLink RX1 28 "SignRailModel" "many" "[I") (by decide +kernel)) (fun _ h9 => h9) rfl dX1_reads_6 ?_
  refine lv_iload_n hx hb dX1_reads_9 rfl (lv_at hl 1 rfl) ?_
  refine n_iald hx hb hK hP 7 0 rfl rfl (k := w) (by omega) (Nat.le_of_ble_eq_true rfl) dX1_reads_10 ?_
  refine lv_as (y := nI k) (hmn) ?_
  refine n_icmp_ge (tgt := 112) hx hb dX1_reads_11 (by decide) (by omega) (by omega) (fun c_11 => ?_) (fun c_11 => ?_)
  · refine lv_iload_n hx hb dX1_reads_112 rfl (lv_at hl 2 rfl) ?_
    exact k_iret hx hb hr hlocks dX1_reads_113 (by rw [show i = k from by omega])
  · refine lv_aload_n hx hb dX1_reads_14 rfl (lv_at hl 0 rfl) ?_
    refine va_get (D := D) (ci := 1) (v := .ref (q 9)) (C := RX1) (T := TX1) (N := 15) hx hb hts hin hown hK hP 0 rfl rfl 9 (by decide) (hts (.fieldLink RX1 34 "SignRailModel" "cuts" "[I") (by decide +kernel)) (fun _ h9 => h9) rfl dX1_reads_15 ?_
    refine lv_iconst (v := nI 5) hx hb dX1_reads_18 (by decide) ?_
    refine lv_iload_n hx hb dX1_reads_19 rfl (lv_at hl 1 rfl) ?_
    refine lv_imul hx hb dX1_reads_20 ?_
    refine lv_as (y := nI (5 * w)) (pk_mul _ _) ?_
    refine lv_iload_n hx hb dX1_reads_21 rfl (lv_at hl 3 rfl) ?_
    refine lv_iadd hx hb dX1_reads_22 ?_
    refine lv_as (y := nI ((5 * w) + i)) (nI_add _ _) ?_
    refine n_iald hx hb hK hP 9 0 rfl rfl (k := ((5 * w) + i)) (by omega) (Nat.le_of_ble_eq_true rfl) dX1_reads_23 ?_
    refine lv_istore (lv' := [(4, .int (ct ((5 * w) + i))), (0, .ref (q 0)), (1, .int (nI w)), (2, .int (nI (rrN (rdR sh ct ds w) i))), (3, .int (nI i))]) hx hb dX1_reads_24 hl (by decide) rfl (fun ls hl => ?_)
    refine lv_aload_n hx hb dX1_reads_26 rfl (lv_at hl 1 rfl) ?_
    refine lv_iload hx hb dX1_reads_27 (lv_at hl 0 rfl) ?_
    refine lv_iconst (v := (-1)) hx hb dX1_reads_29 (by decide) ?_
    refine k_callVi (As := [.int (ct ((5 * w) + i)), .int (-1)]) (rest := []) ⟨hx, hb, hml, hown, hts⟩ (c_X1_nearest l D cI cZ q th sh sp ld nm nk tx mn ds ct co st at0 ha tk (ct ((5 * w) + i)) 8 (Nat.le_refl 8)) (cwV 2 hts gX1_reads_X1_nearest rfl rfl rfl (by decide +kernel) ⟨Nat.le_of_ble_eq_true rfl, Nat.le_of_ble_eq_true rfl⟩) k_B_bl (k_B_of hP hK) (va_recv hK hP (ci := 1) (q0 := 0) rfl rfl) rfl hl.1 rfl (Nat.le_of_ble_eq_true rfl) dX1_reads_30 ⟨Nat.zero_le _, Nat.zero_le _⟩ ?_
    refine lv_istore (lv' := [(5, .int (ix (nrN (dR sh (ct ((5 * w) + i))) 8 8))), (4, .int (ct ((5 * w) + i))), (0, .ref (q 0)), (1, .int (nI w)), (2, .int (nI (rrN (rdR sh ct ds w) i))), (3, .int (nI i))]) hx hb dX1_reads_33 hl (by decide) rfl (fun ls hl => ?_)
    refine lv_aload_n hx hb dX1_reads_35 rfl (lv_at hl 2 rfl) ?_
    refine lv_iload hx hb dX1_reads_36 (lv_at hl 1 rfl) ?_
    refine lv_iload hx hb dX1_reads_38 (lv_at hl 0 rfl) ?_
    refine k_callVi (As := [.int (ct ((5 * w) + i)), .int (ix (nrN (dR sh (ct ((5 * w) + i))) 8 8))]) (rest := []) ⟨hx, hb, hml, hown, hts⟩ (c_X1_nearest l D cI cZ q th sh sp ld nm nk tx mn ds ct co st at0 ha tk (ct ((5 * w) + i)) (nrN (dR sh (ct ((5 * w) + i))) 8 8) (Nat.le_of_lt (nr_lt8 _ _))) (cwV 2 hts gX1_reads_X1_nearest rfl rfl rfl (by decide +kernel) ⟨Nat.le_of_ble_eq_true rfl, Nat.le_of_ble_eq_true rfl⟩) k_B_bl (k_B_of hP hK) (va_recv hK hP (ci := 1) (q0 := 0) rfl rfl) rfl hl.1 rfl (Nat.le_of_ble_eq_true rfl) dX1_reads_40 ⟨Nat.zero_le _, Nat.zero_le _⟩ ?_
    refine lv_istore (lv' := [(6, .int (ix (nrN (dR sh (ct ((5 * w) + i))) (nrN (dR sh (ct ((5 * w) + i))) 8 8) 8))), (5, .int (ix (nrN (dR sh (ct ((5 * w) + i))) 8 8))), (4, .int (ct ((5 * w) + i))), (0, .ref (q 0)), (1, .int (nI w)), (2, .int (nI (rrN (rdR sh ct ds w) i))), (3, .int (nI i))]) hx hb dX1_reads_43 hl (by decide) rfl (fun ls hl => ?_)
    refine lv_aload_n hx hb dX1_reads_45 rfl (lv_at hl 3 rfl) ?_
    refine va_get (D := D) (ci := 1) (v := .ref (q 1)) (C := RX1) (T := TX1) (N := 15) hx hb hts hin hown hK hP 0 rfl rfl 1 (by decide) (hts (.fieldLink RX1 7 "SignRailModel" "shapes" "[I") (by decide +kernel)) (fun _ h9 => h9) rfl dX1_reads_46 ?_
    refine lv_iload hx hb dX1_reads_49 (lv_at hl 0 rfl) ?_
    refine lv_as (y := nI (nrN (dR sh (ct (5 * w + i))) (nrN (dR sh (ct (5 * w + i))) 8 8) 8)) (ix_lt (nr_lt8 _ _)) ?_
    refine n_iald hx hb hK hP 1 0 rfl rfl (k := (nrN (dR sh (ct (5 * w + i))) (nrN (dR sh (ct (5 * w + i))) 8 8) 8)) (nr_lt8 _ _) (Nat.le_of_ble_eq_true rfl) dX1_reads_51 ?_
    refine lv_iload hx hb dX1_reads_52 (lv_at hl 2 rfl) ?_
    refine lv_ixor hx hb dX1_reads_54 ?_
    refine k_callSi (As := [.int ((sh (nrN (dR sh (ct (5 * w + i))) (nrN (dR sh (ct (5 * w + i))) 8 8) 8)) ^^^ (ct ((5 * w) + i)))]) (rest := []) ⟨hx, hb, hml, hown, hts⟩ (c_X1_bits l ((sh (nrN (dR sh (ct (5 * w + i))) (nrN (dR sh (ct (5 * w + i))) 8 8) 8)) ^^^ (ct ((5 * w) + i)))) (va_cwS 1 hts gX1_reads_X1_bits rfl rfl rfl (by decide +kernel) ⟨Nat.le_of_ble_eq_true rfl, Nat.le_of_ble_eq_true rfl⟩) k_bl_tt (fun _ _ _ => trivial) rfl hl.1 rfl (Nat.le_of_ble_eq_true rfl) dX1_reads_55 ⟨Nat.zero_le _, Nat.zero_le _⟩ ?_
    refine lv_as (y := df (sh (nrN (dR sh (ct (5 * w + i))) (nrN (dR sh (ct (5 * w + i))) 8 8) 8)) (ct (5 * w + i))) (rfl) ?_
    refine lv_aload_n hx hb dX1_reads_58 rfl (lv_at hl 3 rfl) ?_
    refine va_get (D := D) (ci := 1) (v := .ref (q 1)) (C := RX1) (T := TX1) (N := 15) hx hb hts hin hown hK hP 0 rfl rfl 1 (by decide) (hts (.fieldLink RX1 7 "SignRailModel" "shapes" "[I") (by decide +kernel)) (fun _ h9 => h9) rfl dX1_reads_59 ?_
    refine lv_iload hx hb dX1_reads_62 (lv_at hl 1 rfl) ?_
    refine lv_as (y := nI (nrN (dR sh (ct (5 * w + i))) 8 8)) (ix_lt (nr_lt8 _ _)) ?_
    refine n_iald hx hb hK hP 1 0 rfl rfl (k := (nrN (dR sh (ct (5 * w + i))) 8 8)) (nr_lt8 _ _) (Nat.le_of_ble_eq_true rfl) dX1_reads_64 ?_
    refine lv_iload hx hb dX1_reads_65 (lv_at hl 2 rfl) ?_
    refine lv_ixor hx hb dX1_reads_67 ?_
    refine k_callSi (As := [.int ((sh (nrN (dR sh (ct (5 * w + i))) 8 8)) ^^^ (ct ((5 * w) + i)))]) (rest := [.int (df (sh (nrN (dR sh (ct (5 * w + i))) (nrN (dR sh (ct (5 * w + i))) 8 8) 8)) (ct (5 * w + i)))]) ⟨hx, hb, hml, hown, hts⟩ (c_X1_bits l ((sh (nrN (dR sh (ct (5 * w + i))) 8 8)) ^^^ (ct ((5 * w) + i)))) (va_cwS 1 hts gX1_reads_X1_bits rfl rfl rfl (by decide +kernel) ⟨Nat.le_of_ble_eq_true rfl, Nat.le_of_ble_eq_true rfl⟩) k_bl_tt (fun _ _ _ => trivial) rfl hl.1 rfl (Nat.le_of_ble_eq_true rfl) dX1_reads_68 ⟨Nat.zero_le _, Nat.zero_le _⟩ ?_
    refine lv_as (y := df (sh (nrN (dR sh (ct (5 * w + i))) 8 8)) (ct (5 * w + i))) (rfl) ?_
    refine lv_isub hx hb dX1_reads_71 ?_
    refine lv_aload_n hx hb dX1_reads_72 rfl (lv_at hl 3 rfl) ?_
    refine va_get (D := D) (ci := 1) (v := .ref (q 8)) (C := RX1) (T := TX1) (N := 15) hx hb hts hin hown hK hP 0 rfl rfl 8 (by decide) (hts (.fieldLink RX1 31 "SignRailModel" "distances" "[I") (by decide +kernel)) (fun _ h9 => h9) rfl dX1_reads_73 ?_
    refine lv_iload_n hx hb dX1_reads_76 rfl (lv_at hl 4 rfl) ?_
    refine n_iald hx hb hK hP 8 0 rfl rfl (k := w) (by omega) (Nat.le_of_ble_eq_true rfl) dX1_reads_77 ?_
    refine lv_icmp_lt (tgt := 85) hx hb dX1_reads_78 (by decide) (fun c_78 => ?_) (fun c_78 => ?_)
    · refine lv_iconst (v := nI 0) hx hb dX1_reads_85 (by decide) ?_
      refine lv_istore (lv' := [(7, .int (nI 0)), (6, .int (ix (nrN (dR sh (ct ((5 * w) + i))) (nrN (dR sh (ct ((5 * w) + i))) 8 8) 8))), (5, .int (ix (nrN (dR sh (ct ((5 * w) + i))) 8 8))), (4, .int (ct ((5 * w) + i))), (0, .ref (q 0)), (1, .int (nI w)), (2, .int (nI (rrN (rdR sh ct ds w) i))), (3, .int (nI i))]) hx hb dX1_reads_86 hl (by decide) rfl (fun ls hl => ?_)
      refine lv_bipush (v := nI 8) hx hb dX1_reads_88 (by decide) ?_
      refine lv_iload_n hx hb dX1_reads_90 rfl (lv_at hl 6 rfl) ?_
      refine lv_imul hx hb dX1_reads_91 ?_
      refine lv_as (y := nI (8 * (rrN (rdR sh ct ds w) i))) (pk_mul _ _) ?_
      refine lv_iload hx hb dX1_reads_92 (lv_at hl 0 rfl) ?_
      refine n_if_eq (tgt := 102) hx hb dX1_reads_94 (by decide) (by decide) (fun _ => ?_) (fun c_94 => absurd c_94 (by decide))
      refine lv_iload hx hb dX1_reads_102 (lv_at hl 1 rfl) ?_
      refine lv_as (y := nI (rdG (dR sh (ct (5 * w + i))) (ds w))) ((ix_lt (nr_lt8 _ _)).trans (congrArg nI (if_pos c_78).symm)) ?_
      refine lv_iadd hx hb dX1_reads_104 ?_
      refine lv_as (y := nI (rrN (rdR sh ct ds w) (i + 1))) (nI_add _ _) ?_
      refine lv_istore_n (lv' := [(2, .int (nI (rrN (rdR sh ct ds w) (i + 1)))), (7, .int (nI 0)), (6, .int (ix (nrN (dR sh (ct ((5 * w) + i))) (nrN (dR sh (ct ((5 * w) + i))) 8 8) 8))), (5, .int (ix (nrN (dR sh (ct ((5 * w) + i))) 8 8))), (4, .int (ct ((5 * w) + i))), (0, .ref (q 0)), (1, .int (nI w)), (3, .int (nI i))]) hx hb dX1_reads_105 rfl hl (by decide) rfl (fun ls hl => ?_)
      refine lv_iinc (v := nI (i + 1)) (lv' := [(3, .int (nI (i + 1))), (2, .int (nI (rrN (rdR sh ct ds w) (i + 1)))), (7, .int (nI 0)), (6, .int (ix (nrN (dR sh (ct ((5 * w) + i))) (nrN (dR sh (ct ((5 * w) + i))) 8 8) 8))), (5, .int (ix (nrN (dR sh (ct ((5 * w) + i))) 8 8))), (4, .int (ct ((5 * w) + i))), (0, .ref (q 0)), (1, .int (nI w))]) hx hb dX1_reads_106 hl (k := 7) rfl (nI_inc _) (by decide) rfl (fun ls hl => ?_)
      refine lv_goto (tgt := 4) hx hb dX1_reads_109 (by decide) ?_
      exact ih_4 _ (by omega) (lv_sub hl [6, 7, 1, 0] rfl)
    · refine lv_iconst (v := nI 1) hx hb dX1_reads_81 (by decide) ?_
      refine lv_goto (tgt := 86) hx hb dX1_reads_82 (by decide) ?_
      refine lv_istore (lv' := [(7, .int (nI 1)), (6, .int (ix (nrN (dR sh (ct ((5 * w) + i))) (nrN (dR sh (ct ((5 * w) + i))) 8 8) 8))), (5, .int (ix (nrN (dR sh (ct ((5 * w) + i))) 8 8))), (4, .int (ct ((5 * w) + i))), (0, .ref (q 0)), (1, .int (nI w)), (2, .int (nI (rrN (rdR sh ct ds w) i))), (3, .int (nI i))]) hx hb dX1_reads_86 hl (by decide) rfl (fun ls hl => ?_)
      refine lv_bipush (v := nI 8) hx hb dX1_reads_88 (by decide) ?_
      refine lv_iload_n hx hb dX1_reads_90 rfl (lv_at hl 6 rfl) ?_
      refine lv_imul hx hb dX1_reads_91 ?_
      refine lv_as (y := nI (8 * (rrN (rdR sh ct ds w) i))) (pk_mul _ _) ?_
      refine lv_iload hx hb dX1_reads_92 (lv_at hl 0 rfl) ?_
      refine n_if_eq (tgt := 102) hx hb dX1_reads_94 (by decide) (by decide) (fun c_94 => absurd c_94 (by decide)) (fun _ => ?_)
      refine lv_iload hx hb dX1_reads_97 (lv_at hl 2 rfl) ?_
      refine lv_as (y := nI (rdG (dR sh (ct (5 * w + i))) (ds w))) ((ix_lt (nr_lt8 _ _)).trans (congrArg nI (if_neg c_78).symm)) ?_
      refine lv_goto (tgt := 104) hx hb dX1_reads_99 (by decide) ?_
      refine lv_iadd hx hb dX1_reads_104 ?_
      refine lv_as (y := nI (rrN (rdR sh ct ds w) (i + 1))) (nI_add _ _) ?_
      refine lv_istore_n (lv' := [(2, .int (nI (rrN (rdR sh ct ds w) (i + 1)))), (7, .int (nI 1)), (6, .int (ix (nrN (dR sh (ct ((5 * w) + i))) (nrN (dR sh (ct ((5 * w) + i))) 8 8) 8))), (5, .int (ix (nrN (dR sh (ct ((5 * w) + i))) 8 8))), (4, .int (ct ((5 * w) + i))), (0, .ref (q 0)), (1, .int (nI w)), (3, .int (nI i))]) hx hb dX1_reads_105 rfl hl (by decide) rfl (fun ls hl => ?_)
      refine lv_iinc (v := nI (i + 1)) (lv' := [(3, .int (nI (i + 1))), (2, .int (nI (rrN (rdR sh ct ds w) (i + 1)))), (7, .int (nI 1)), (6, .int (ix (nrN (dR sh (ct ((5 * w) + i))) (nrN (dR sh (ct ((5 * w) + i))) 8 8) 8))), (5, .int (ix (nrN (dR sh (ct ((5 * w) + i))) 8 8))), (4, .int (ct ((5 * w) + i))), (0, .ref (q 0)), (1, .int (nI w))]) hx hb dX1_reads_106 hl (k := 7) rfl (nI_inc _) (by decide) rfl (fun ls hl => ?_)
      refine lv_goto (tgt := 4) hx hb dX1_reads_109 (by decide) ?_
      exact ih_4 _ (by omega) (lv_sub hl [6, 7, 1, 0] rfl)
set_option maxHeartbeats 4000000 in
set_option maxRecDepth 100000 in
theorem c_X1_takes (l : Launch) (D : va_G) (cI cZ : ClassId) (q : Nat → Nat) (th : Int32) (sh sp ld nm nk tx mn ds ct : Nat → Int32) (co : Int64) (st at0 ha : Int32) (tk : Nat → Int32) (p0 : Nat) (hp : p0 < 8) (gt gk : Nat) (hgt : gt < 32768) (hgk : gk ≤ 5) (tB : Nat → Bool) (hTk : ∀ w, w < 32 → tk w = bI (tB w)) (K Ld : Nat → Nat) (hS : ∀ w, w < 32 → K w ≤ 5 ∧ mn w = nI (K w)) (hL : ∀ w, w < 32 → Ld w ≤ 8 ∧ ld w = ix (Ld w)) : k_M l yX1_takes wsX1_takes ({ frames := 3, cells := 0, slots := 0, locals := 74 } : Room) [.ref (q 0), .int (nI p0), .int (nI gt), .int (nI gk)] (k_B D (wm cI cZ q th sh sp ld nm nk tx mn ds ct co st at0 ha tk) [(cI, .int), (cZ, .boolean)]) (some (.int (wv p0 (nx (toldR sh ct ds K gk gt) Ld tB p0)))) := by
  refine k_head (cc := cX1_takes) (maxL := 8) (ret := some .int) [(0, .ref (q 0)), (1, .int (nI p0)), (2, .int (nI gt)), (3, .int (nI gk))] (by decide) rfl (Nat.le_of_ble_eq_true rfl) rfl ?_
  intro p e s m below meth c ls hx hb hr hml hown hts hlocks hname hB hl
  have hown : s.vm.findClass RX1 = some m.cls := hown
  obtain ⟨hP, hK⟩ := hB
  have hin : ∀ w ∈ wsX10, w ∈ wsX1_takes := fun w h => List.mem_cons_of_mem _ (List.mem_append_right _ h)
  refine lv_iconst (v := (-1)) hx hb dX1_takes_0 (by decide) ?_
  refine lv_istore (lv' := [(4, .int (-1)), (0, .ref (q 0)), (1, .int (nI p0)), (2, .int (nI gt)), (3, .int (nI gk))]) hx hb dX1_takes_1 hl (by decide) rfl (fun ls hl => ?_)
  refine lv_iconst (v := (-1)) hx hb dX1_takes_3 (by decide) ?_
  refine lv_istore (lv' := [(5, .int (-1)), (4, .int (-1)), (0, .ref (q 0)), (1, .int (nI p0)), (2, .int (nI gt)), (3, .int (nI gk))]) hx hb dX1_takes_4 hl (by decide) rfl (fun ls hl => ?_)
  refine lv_iconst (v := nI 4) hx hb dX1_takes_6 (by decide) ?_
  refine lv_iload_n hx hb dX1_takes_7 rfl (lv_at hl 3 rfl) ?_
  refine lv_imul hx hb dX1_takes_8 ?_
  refine lv_as (y := nI (4 * p0)) (pk_mul _ _) ?_
  refine lv_iconst (v := nI 4) hx hb dX1_takes_9 (by decide) ?_
  refine lv_iadd hx hb dX1_takes_10 ?_
  refine lv_as (y := nI ((4 * p0) + 4)) (nI_add _ _) ?_
  refine lv_iconst (v := nI 1) hx hb dX1_takes_11 (by decide) ?_
  refine lv_isub hx hb dX1_takes_12 ?_
  refine lv_istore (lv' := [(6, .int ((nI ((4 * p0) + 4)) - (nI 1))), (5, .int (-1)), (4, .int (-1)), (0, .ref (q 0)), (1, .int (nI p0)), (2, .int (nI gt)), (3, .int (nI gk))]) hx hb dX1_takes_13 hl (by decide) rfl (fun ls hl => ?_)
  refine W.loop (fun i ls => ∃ (u4 : Int32) (u5 : Int32), (u4 = wv p0 (gb (fun e => decide (Ld (4 * p0 + e) ≠ 8) && !tB (4 * p0 + e)) i)) ∧ (u5 = wv p0 (gb (fun e => decide (Ld (4 * p0 + e) ≠ 8) && (toldR sh ct ds K gk gt) (4 * p0 + e)) i)) ∧ lv_has ls 8 [(0, .ref (q 0)), (1, .int (nI p0)), (2, .int (nI gt)), (3, .int (nI gk)), (4, .int u4), (5, .int u5), (6, .int (nI (4 * p0 + (4 - i)) - nI 1))]) (4) (0) (by omega) ⟨(-1), (-1), rfl, rfl, lv_sub hl [3, 4, 5, 6, 2, 1, 0] rfl⟩ ?_
  intro i ls hi_15 hI_15 ih_15
  obtain ⟨u4, u5, hf0_15, hf1_15, hl⟩ := hI_15
  refine lv_iload hx hb dX1_takes_15 (lv_at hl 6 rfl) ?_
  refine lv_iconst (v := nI 4) hx hb dX1_takes_17 (by decide) ?_
  refine lv_iload_n hx hb dX1_takes_18 rfl (lv_at hl 1 rfl) ?_
  refine lv_imul hx hb dX1_takes_19 ?_
  refine lv_as (y := nI (4 * p0)) (pk_mul _ _) ?_
  refine lv_icmp_lt (tgt := 106) hx hb dX1_takes_20 (by decide) (fun c_20 => ?_) (fun c_20 => ?_)
  · refine lv_iload hx hb dX1_takes_106 (lv_at hl 5 rfl) ?_
    refine lv_iconst (v := (-1)) hx hb dX1_takes_108 (by decide) ?_
    refine lv_icmp_eq (tgt := 117) hx hb dX1_takes_109 (by decide) (fun c_109 => ?_) (fun c_109 => ?_)
    · refine lv_iload hx hb dX1_takes_117 (lv_at hl 4 rfl) ?_
      have h4 : i = 4 := (sg_lt p0 hp i (by omega)).mp c_20
      subst h4
      exact k_iret hx hb hr hlocks dX1_takes_119 (by rw [hf1_15] at c_109; rw [hf0_15, nx, nxE, ← gb_fb, ← gb_fb, if_pos ((wv_m1 hp (gb_le _ 4 (Nat.le_refl 4))).mp c_109)])
    · refine lv_iload hx hb dX1_takes_112 (lv_at hl 5 rfl) ?_
      refine lv_goto (tgt := 119) hx hb dX1_takes_114 (by decide) ?_
      have h4 : i = 4 := (sg_lt p0 hp i (by omega)).mp c_20
      subst h4
      exact k_iret hx hb hr hlocks dX1_takes_119 (by rw [hf1_15] at c_109 ⊢; rw [nx, nxE, ← gb_fb, if_neg (fun q => c_109 ((wv_m1 hp (gb_le _ 4 (Nat.le_refl 4))).mpr q))])
  · have hi4 : i < 4 := Nat.lt_of_le_of_ne hi_15 (fun q => c_20 ((sg_lt p0 hp i (by omega)).mpr q))
    rw [sg_eq p0 hp i hi4] at hl
    refine lv_aload_n hx hb dX1_takes_23 rfl (lv_at hl 0 rfl) ?_
    refine va_get (D := D) (ci := 1) (v := .ref (q 3)) (C := RX1) (T := TX1) (N := 15) hx hb hts hin hown hK hP 0 rfl rfl 3 (by decide) (hts (.fieldLink RX1 16 "SignRailModel" "leads" "[I") (by decide +kernel)) (fun _ h9 => h9) rfl dX1_takes_24 ?_
    refine lv_iload hx hb dX1_takes_27 (lv_at hl 6 rfl) ?_
    refine n_iald hx hb hK hP 3 0 rfl rfl (k := (4 * p0 + (3 - i))) (by omega) (Nat.le_of_ble_eq_true rfl) dX1_takes_29 ?_
    refine lv_as (y := ix (Ld (4 * p0 + (3 - i)))) ((hL _ (by omega)).2) ?_
    refine lv_iconst (v := (-1)) hx hb dX1_takes_30 (by decide) ?_
    refine lv_icmp_eq (tgt := 38) hx hb dX1_takes_31 (by decide) (fun c_31 => ?_) (fun c_31 => ?_)
    · have hl8 := (ix_m1 (hL _ (by omega)).1).mp c_31
      refine lv_iconst (v := nI 0) hx hb dX1_takes_38 (by decide) ?_
      refine lv_istore (lv' := [(7, .int (nI 0)), (0, .ref (q 0)), (1, .int (nI p0)), (2, .int (nI gt)), (3, .int (nI gk)), (4, .int u4), (5, .int u5), (6, .int (nI (4 * p0 + (3 - i))))]) hx hb dX1_takes_39 hl (by decide) rfl (fun ls hl => ?_)
      refine lv_iload hx hb dX1_takes_41 (lv_at hl 0 rfl) ?_
      refine n_if_eq (tgt := 61) hx hb dX1_takes_43 (by decide) (by decide) (fun _ => ?_) (fun c_43 => absurd c_43 (by decide))
      refine lv_iload hx hb dX1_takes_61 (lv_at hl 5 rfl) ?_
      refine lv_istore (lv' := [(4, .int u4), (7, .int (nI 0)), (0, .ref (q 0)), (1, .int (nI p0)), (2, .int (nI gt)), (3, .int (nI gk)), (5, .int u5), (6, .int (nI (4 * p0 + (3 - i))))]) hx hb dX1_takes_63 hl (by decide) rfl (fun ls hl => ?_)
      refine lv_iload hx hb dX1_takes_65 (lv_at hl 1 rfl) ?_
      refine n_if_eq (tgt := 96) hx hb dX1_takes_67 (by decide) (by decide) (fun _ => ?_) (fun c_67 => absurd c_67 (by decide))
      refine lv_iload hx hb dX1_takes_96 (lv_at hl 6 rfl) ?_
      refine lv_istore (lv' := [(5, .int u5), (4, .int u4), (7, .int (nI 0)), (0, .ref (q 0)), (1, .int (nI p0)), (2, .int (nI gt)), (3, .int (nI gk)), (6, .int (nI (4 * p0 + (3 - i))))]) hx hb dX1_takes_98 hl (by decide) rfl (fun ls hl => ?_)
      refine lv_iinc (v := nI (4 * p0 + (4 - (i + 1))) - nI 1) (lv' := [(6, .int (nI (4 * p0 + (4 - (i + 1))) - nI 1)), (5, .int u5), (4, .int u4), (7, .int (nI 0)), (0, .ref (q 0)), (1, .int (nI p0)), (2, .int (nI gt)), (3, .int (nI gk))]) hx hb dX1_takes_100 hl (k := 7) rfl (sg_dec p0 hp i hi4) (by decide) rfl (fun ls hl => ?_)
      refine lv_goto (tgt := 15) hx hb dX1_takes_103 (by decide) ?_
      exact ih_15 _ (by omega) ⟨u4, u5, by rw [gb_f (by simp [hl8])]; exact hf0_15, by rw [gb_f (by simp [hl8])]; exact hf1_15, lv_sub hl [4, 5, 6, 7, 2, 1, 0] rfl⟩
    · have hl8 : Ld (4 * p0 + (3 - i)) ≠ 8 := fun q => c_31 ((ix_m1 (hL _ (by omega)).1).mpr q)
      refine lv_iconst (v := nI 1) hx hb dX1_takes_34 (by decide) ?_
      refine lv_goto (tgt := 39) hx hb dX1_takes_35 (by decide) ?_
      refine lv_istore (lv' := [(7, .int (nI 1)), (0, .ref (q 0)), (1, .int (nI p0)), (2, .int (nI gt)), (3, .int (nI gk)), (4, .int u4), (5, .int u5), (6, .int (nI (4 * p0 + (3 - i))))]) hx hb dX1_takes_39 hl (by decide) rfl (fun ls hl => ?_)
      refine lv_iload hx hb dX1_takes_41 (lv_at hl 0 rfl) ?_
      refine n_if_eq (tgt := 61) hx hb dX1_takes_43 (by decide) (by decide) (fun c_43 => absurd c_43 (by decide)) (fun _ => ?_)
      refine lv_aload_n hx hb dX1_takes_46 rfl (lv_at hl 1 rfl) ?_
      refine va_get (D := D) (ci := 1) (v := .ref (q 10)) (C := RX1) (T := TX1) (N := 15) hx hb hts hin hown hK hP 0 rfl rfl 14 (by decide) (hts (.fieldLink RX1 37 "SignRailModel" "isTaken" "[Z") (by decide +kernel)) (fun _ h9 => h9) rfl dX1_takes_47 ?_
      refine lv_iload hx hb dX1_takes_50 (lv_at hl 7 rfl) ?_
      refine n_zald hx hb hK hP 10 1 rfl rfl (k := (4 * p0 + (3 - i))) (by omega) (Nat.le_of_ble_eq_true rfl) dX1_takes_52 ?_
      refine lv_as (y := bI (tB (4 * p0 + (3 - i)))) (hTk _ (by omega)) ?_
      refine b_if_ne (tgt := 61) hx hb dX1_takes_53 (by decide) (fun c_53 => ?_) (fun c_53 => ?_)
      · refine lv_iload hx hb dX1_takes_61 (lv_at hl 5 rfl) ?_
        refine lv_istore (lv' := [(4, .int u4), (7, .int (nI 1)), (0, .ref (q 0)), (1, .int (nI p0)), (2, .int (nI gt)), (3, .int (nI gk)), (5, .int u5), (6, .int (nI (4 * p0 + (3 - i))))]) hx hb dX1_takes_63 hl (by decide) rfl (fun ls hl => ?_)
        refine lv_iload hx hb dX1_takes_65 (lv_at hl 1 rfl) ?_
        refine n_if_eq (tgt := 96) hx hb dX1_takes_67 (by decide) (by decide) (fun c_67 => absurd c_67 (by decide)) (fun _ => ?_)
        refine lv_aload_n hx hb dX1_takes_70 rfl (lv_at hl 2 rfl) ?_
        refine va_get (D := D) (ci := 1) (v := .ref (q 7)) (C := RX1) (T := TX1) (N := 15) hx hb hts hin hown hK hP 0 rfl rfl 7 (by decide) (hts (.fieldLink RX1 28 "SignRailModel" "many" "[I") (by decide +kernel)) (fun _ h9 => h9) rfl dX1_takes_71 ?_
        refine lv_iload hx hb dX1_takes_74 (lv_at hl 7 rfl) ?_
        refine n_iald hx hb hK hP 7 0 rfl rfl (k := (4 * p0 + (3 - i))) (by omega) (Nat.le_of_ble_eq_true rfl) dX1_takes_76 ?_
        refine lv_as (y := nI (K (4 * p0 + (3 - i)))) ((hS _ (by omega)).2) ?_
        refine lv_iload_n hx hb dX1_takes_77 rfl (lv_at hl 5 rfl) ?_
        refine n_icmp_ne (tgt := 96) hx hb dX1_takes_78 (by decide) (by have := (hS (4 * p0 + (3 - i)) (by omega)).1; omega) (by omega) (fun c_78 => ?_) (fun c_78 => ?_)
        · refine lv_iload hx hb dX1_takes_96 (lv_at hl 6 rfl) ?_
          refine lv_istore (lv' := [(5, .int u5), (4, .int u4), (7, .int (nI 1)), (0, .ref (q 0)), (1, .int (nI p0)), (2, .int (nI gt)), (3, .int (nI gk)), (6, .int (nI (4 * p0 + (3 - i))))]) hx hb dX1_takes_98 hl (by decide) rfl (fun ls hl => ?_)
          refine lv_iinc (v := nI (4 * p0 + (4 - (i + 1))) - nI 1) (lv' := [(6, .int (nI (4 * p0 + (4 - (i + 1))) - nI 1)), (5, .int u5), (4, .int u4), (7, .int (nI 1)), (0, .ref (q 0)), (1, .int (nI p0)), (2, .int (nI gt)), (3, .int (nI gk))]) hx hb dX1_takes_100 hl (k := 7) rfl (sg_dec p0 hp i hi4) (by decide) rfl (fun ls hl => ?_)
          refine lv_goto (tgt := 15) hx hb dX1_takes_103 (by decide) ?_
          exact ih_15 _ (by omega) ⟨u4, u5, by rw [gb_f (by simp [c_53])]; exact hf0_15, by rw [gb_f (by simp [rdasR, c_78])]; exact hf1_15, lv_sub hl [4, 5, 6, 7, 2, 1, 0] rfl⟩
        · refine lv_aload_n hx hb dX1_takes_81 rfl (lv_at hl 2 rfl) ?_
          refine lv_iload hx hb dX1_takes_82 (lv_at hl 7 rfl) ?_
          have hrr := rrN_lt (r := rdR sh ct ds (4 * p0 + (3 - i))) (fun _ => rdG_lt _ _) (K (4 * p0 + (3 - i)))
          have hp8 := p8_le (k := K (4 * p0 + (3 - i))) (hS _ (by omega)).1
          refine k_callVi (As := [.int (nI (4 * p0 + (3 - i)))]) (rest := []) ⟨hx, hb, hml, hown, hts⟩ (c_X1_reads l D cI cZ q th sh sp ld nm nk tx mn ds ct co st at0 ha tk (4 * p0 + (3 - i)) (K (4 * p0 + (3 - i))) (by omega) (hS _ (by omega)).1 (hS _ (by omega)).2) (cwV 1 hts gX1_takes_X1_reads rfl rfl rfl (by decide +kernel) ⟨Nat.le_of_ble_eq_true rfl, Nat.le_of_ble_eq_true rfl⟩) k_B_bl (k_B_of hP hK) (va_recv hK hP (ci := 1) (q0 := 0) rfl rfl) rfl hl.1 rfl (Nat.le_of_ble_eq_true rfl) dX1_takes_84 ⟨Nat.zero_le _, Nat.zero_le _⟩ ?_
          refine lv_iload_n hx hb dX1_takes_87 rfl (lv_at hl 4 rfl) ?_
          refine n_icmp_ne (tgt := 96) hx hb dX1_takes_88 (by decide) (by omega) (by omega) (fun c_88 => ?_) (fun c_88 => ?_)
          · have hrd : rdasR sh ct ds (4 * p0 + (3 - i)) (K (4 * p0 + (3 - i))) gk gt = false := decide_eq_false (fun q => c_88 q.2)
            refine lv_iload hx hb dX1_takes_96 (lv_at hl 6 rfl) ?_
            refine lv_istore (lv' := [(5, .int u5), (4, .int u4), (7, .int (nI 1)), (0, .ref (q 0)), (1, .int (nI p0)), (2, .int (nI gt)), (3, .int (nI gk)), (6, .int (nI (4 * p0 + (3 - i))))]) hx hb dX1_takes_98 hl (by decide) rfl (fun ls hl => ?_)
            refine lv_iinc (v := nI (4 * p0 + (4 - (i + 1))) - nI 1) (lv' := [(6, .int (nI (4 * p0 + (4 - (i + 1))) - nI 1)), (5, .int u5), (4, .int u4), (7, .int (nI 1)), (0, .ref (q 0)), (1, .int (nI p0)), (2, .int (nI gt)), (3, .int (nI gk))]) hx hb dX1_takes_100 hl (k := 7) rfl (sg_dec p0 hp i hi4) (by decide) rfl (fun ls hl => ?_)
            refine lv_goto (tgt := 15) hx hb dX1_takes_103 (by decide) ?_
            exact ih_15 _ (by omega) ⟨u4, u5, by rw [gb_f (by simp [c_53])]; exact hf0_15, by rw [gb_f (by simp [hrd])]; exact hf1_15, lv_sub hl [4, 5, 6, 7, 2, 1, 0] rfl⟩
          · have hrd : rdasR sh ct ds (4 * p0 + (3 - i)) (K (4 * p0 + (3 - i))) gk gt = true := decide_eq_true ⟨c_78, c_88⟩
            refine lv_iload hx hb dX1_takes_91 (lv_at hl 7 rfl) ?_
            refine lv_goto (tgt := 98) hx hb dX1_takes_93 (by decide) ?_
            refine lv_istore (lv' := [(5, .int (nI (4 * p0 + (3 - i)))), (4, .int u4), (7, .int (nI 1)), (0, .ref (q 0)), (1, .int (nI p0)), (2, .int (nI gt)), (3, .int (nI gk)), (6, .int (nI (4 * p0 + (3 - i))))]) hx hb dX1_takes_98 hl (by decide) rfl (fun ls hl => ?_)
            refine lv_iinc (v := nI (4 * p0 + (4 - (i + 1))) - nI 1) (lv' := [(6, .int (nI (4 * p0 + (4 - (i + 1))) - nI 1)), (5, .int (nI (4 * p0 + (3 - i)))), (4, .int u4), (7, .int (nI 1)), (0, .ref (q 0)), (1, .int (nI p0)), (2, .int (nI gt)), (3, .int (nI gk))]) hx hb dX1_takes_100 hl (k := 7) rfl (sg_dec p0 hp i hi4) (by decide) rfl (fun ls hl => ?_)
            refine lv_goto (tgt := 15) hx hb dX1_takes_103 (by decide) ?_
            exact ih_15 _ (by omega) ⟨u4, nI (4 * p0 + (3 - i)), by rw [gb_f (by simp [c_53])]; exact hf0_15, by rw [gb_t (by simp [hl8, hrd])]; exact (wv_lt (by omega)).symm, lv_sub hl [4, 5, 6, 7, 2, 1, 0] rfl⟩
      · refine lv_iload hx hb dX1_takes_56 (lv_at hl 7 rfl) ?_
        refine lv_goto (tgt := 63) hx hb dX1_takes_58 (by decide) ?_
        refine lv_istore (lv' := [(4, .int (nI (4 * p0 + (3 - i)))), (7, .int (nI 1)), (0, .ref (q 0)), (1, .int (nI p0)), (2, .int (nI gt)), (3, .int (nI gk)), (5, .int u5), (6, .int (nI (4 * p0 + (3 - i))))]) hx hb dX1_takes_63 hl (by decide) rfl (fun ls hl => ?_)
        refine lv_iload hx hb dX1_takes_65 (lv_at hl 1 rfl) ?_
        refine n_if_eq (tgt := 96) hx hb dX1_takes_67 (by decide) (by decide) (fun c_67 => absurd c_67 (by decide)) (fun _ => ?_)
        refine lv_aload_n hx hb dX1_takes_70 rfl (lv_at hl 2 rfl) ?_
        refine va_get (D := D) (ci := 1) (v := .ref (q 7)) (C := RX1) (T := TX1) (N := 15) hx hb hts hin hown hK hP 0 rfl rfl 7 (by decide) (hts (.fieldLink RX1 28 "SignRailModel" "many" "[I") (by decide +kernel)) (fun _ h9 => h9) rfl dX1_takes_71 ?_
        refine lv_iload hx hb dX1_takes_74 (lv_at hl 7 rfl) ?_
        refine n_iald hx hb hK hP 7 0 rfl rfl (k := (4 * p0 + (3 - i))) (by omega) (Nat.le_of_ble_eq_true rfl) dX1_takes_76 ?_
        refine lv_as (y := nI (K (4 * p0 + (3 - i)))) ((hS _ (by omega)).2) ?_
        refine lv_iload_n hx hb dX1_takes_77 rfl (lv_at hl 5 rfl) ?_
        refine n_icmp_ne (tgt := 96) hx hb dX1_takes_78 (by decide) (by have := (hS (4 * p0 + (3 - i)) (by omega)).1; omega) (by omega) (fun c_78 => ?_) (fun c_78 => ?_)
        · refine lv_iload hx hb dX1_takes_96 (lv_at hl 6 rfl) ?_
          refine lv_istore (lv' := [(5, .int u5), (4, .int (nI (4 * p0 + (3 - i)))), (7, .int (nI 1)), (0, .ref (q 0)), (1, .int (nI p0)), (2, .int (nI gt)), (3, .int (nI gk)), (6, .int (nI (4 * p0 + (3 - i))))]) hx hb dX1_takes_98 hl (by decide) rfl (fun ls hl => ?_)
          refine lv_iinc (v := nI (4 * p0 + (4 - (i + 1))) - nI 1) (lv' := [(6, .int (nI (4 * p0 + (4 - (i + 1))) - nI 1)), (5, .int u5), (4, .int (nI (4 * p0 + (3 - i)))), (7, .int (nI 1)), (0, .ref (q 0)), (1, .int (nI p0)), (2, .int (nI gt)), (3, .int (nI gk))]) hx hb dX1_takes_100 hl (k := 7) rfl (sg_dec p0 hp i hi4) (by decide) rfl (fun ls hl => ?_)
          refine lv_goto (tgt := 15) hx hb dX1_takes_103 (by decide) ?_
          exact ih_15 _ (by omega) ⟨nI (4 * p0 + (3 - i)), u5, by rw [gb_t (by simp [hl8, c_53])]; exact (wv_lt (by omega)).symm, by rw [gb_f (by simp [rdasR, c_78])]; exact hf1_15, lv_sub hl [4, 5, 6, 7, 2, 1, 0] rfl⟩
        · refine lv_aload_n hx hb dX1_takes_81 rfl (lv_at hl 2 rfl) ?_
          refine lv_iload hx hb dX1_takes_82 (lv_at hl 7 rfl) ?_
          have hrr := rrN_lt (r := rdR sh ct ds (4 * p0 + (3 - i))) (fun _ => rdG_lt _ _) (K (4 * p0 + (3 - i)))
          have hp8 := p8_le (k := K (4 * p0 + (3 - i))) (hS _ (by omega)).1
          refine k_callVi (As := [.int (nI (4 * p0 + (3 - i)))]) (rest := []) ⟨hx, hb, hml, hown, hts⟩ (c_X1_reads l D cI cZ q th sh sp ld nm nk tx mn ds ct co st at0 ha tk (4 * p0 + (3 - i)) (K (4 * p0 + (3 - i))) (by omega) (hS _ (by omega)).1 (hS _ (by omega)).2) (cwV 1 hts gX1_takes_X1_reads rfl rfl rfl (by decide +kernel) ⟨Nat.le_of_ble_eq_true rfl, Nat.le_of_ble_eq_true rfl⟩) k_B_bl (k_B_of hP hK) (va_recv hK hP (ci := 1) (q0 := 0) rfl rfl) rfl hl.1 rfl (Nat.le_of_ble_eq_true rfl) dX1_takes_84 ⟨Nat.zero_le _, Nat.zero_le _⟩ ?_
          refine lv_iload_n hx hb dX1_takes_87 rfl (lv_at hl 4 rfl) ?_
          refine n_icmp_ne (tgt := 96) hx hb dX1_takes_88 (by decide) (by omega) (by omega) (fun c_88 => ?_) (fun c_88 => ?_)
          · have hrd : rdasR sh ct ds (4 * p0 + (3 - i)) (K (4 * p0 + (3 - i))) gk gt = false := decide_eq_false (fun q => c_88 q.2)
            refine lv_iload hx hb dX1_takes_96 (lv_at hl 6 rfl) ?_
            refine lv_istore (lv' := [(5, .int u5), (4, .int (nI (4 * p0 + (3 - i)))), (7, .int (nI 1)), (0, .ref (q 0)), (1, .int (nI p0)), (2, .int (nI gt)), (3, .int (nI gk)), (6, .int (nI (4 * p0 + (3 - i))))]) hx hb dX1_takes_98 hl (by decide) rfl (fun ls hl => ?_)
            refine lv_iinc (v := nI (4 * p0 + (4 - (i + 1))) - nI 1) (lv' := [(6, .int (nI (4 * p0 + (4 - (i + 1))) - nI 1)), (5, .int u5), (4, .int (nI (4 * p0 + (3 - i)))), (7, .int (nI 1)), (0, .ref (q 0)), (1, .int (nI p0)), (2, .int (nI gt)), (3, .int (nI gk))]) hx hb dX1_takes_100 hl (k := 7) rfl (sg_dec p0 hp i hi4) (by decide) rfl (fun ls hl => ?_)
            refine lv_goto (tgt := 15) hx hb dX1_takes_103 (by decide) ?_
            exact ih_15 _ (by omega) ⟨nI (4 * p0 + (3 - i)), u5, by rw [gb_t (by simp [hl8, c_53])]; exact (wv_lt (by omega)).symm, by rw [gb_f (by simp [hrd])]; exact hf1_15, lv_sub hl [4, 5, 6, 7, 2, 1, 0] rfl⟩
          · have hrd : rdasR sh ct ds (4 * p0 + (3 - i)) (K (4 * p0 + (3 - i))) gk gt = true := decide_eq_true ⟨c_78, c_88⟩
            refine lv_iload hx hb dX1_takes_91 (lv_at hl 7 rfl) ?_
            refine lv_goto (tgt := 98) hx hb dX1_takes_93 (by decide) ?_
            refine lv_istore (lv' := [(5, .int (nI (4 * p0 + (3 - i)))), (4, .int (nI (4 * p0 + (3 - i)))), (7, .int (nI 1)), (0, .ref (q 0)), (1, .int (nI p0)), (2, .int (nI gt)), (3, .int (nI gk)), (6, .int (nI (4 * p0 + (3 - i))))]) hx hb dX1_takes_98 hl (by decide) rfl (fun ls hl => ?_)
            refine lv_iinc (v := nI (4 * p0 + (4 - (i + 1))) - nI 1) (lv' := [(6, .int (nI (4 * p0 + (4 - (i + 1))) - nI 1)), (5, .int (nI (4 * p0 + (3 - i)))), (4, .int (nI (4 * p0 + (3 - i)))), (7, .int (nI 1)), (0, .ref (q 0)), (1, .int (nI p0)), (2, .int (nI gt)), (3, .int (nI gk))]) hx hb dX1_takes_100 hl (k := 7) rfl (sg_dec p0 hp i hi4) (by decide) rfl (fun ls hl => ?_)
            refine lv_goto (tgt := 15) hx hb dX1_takes_103 (by decide) ?_
            exact ih_15 _ (by omega) ⟨nI (4 * p0 + (3 - i)), nI (4 * p0 + (3 - i)), by rw [gb_t (by simp [hl8, c_53])]; exact (wv_lt (by omega)).symm, by rw [gb_t (by simp [hl8, hrd])]; exact (wv_lt (by omega)).symm, lv_sub hl [4, 5, 6, 7, 2, 1, 0] rfl⟩
end
section
theorem zz_end : True := trivial
end
