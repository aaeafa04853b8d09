/-! THE CLAIM OUT OF ONE WALK OF THE LAW'S BODY. Your part is whole_start (and what it stands on); all else here is the same for every law, but numbers. -/
def R_law : String := "SignRailLaw"
def lw_P (b : Addr) (xs : List Int32) (args : Array Value) (s : State) : Prop := args = #[.ref b] ∧ s.IntsAt b xs ∧ xs.length ≤ 260 ∧ (Jvm.Cond.and given_1 narrow_1).before args s = true
def lw_Q (_ : Array Value) (s : State) (o : Outcome) (t : State) : Prop := o = .returned (some (.int 1)) ∧ Framed s o t [] 96 1076
def lw_Z (below : List Frame) (a : Array Value) (s : State) : State → Prop := fun t => ∃ o, t.status = .running ∧ Ended t below o ∧ lw_Q a s o t
/-- the law's own end, with 1 on the stack, nothing written that was there before, its room as the claim has it -/
theorem lw_ret {p : Program} {l : Launch} {e : Env} {s : State} {m : MethodId} {below : List Frame} {meth : Method} {c : Code} {b : Nat} (hx : p.tables.exec = Jvm.exec) (hb : c.code = code) (hr : meth.sig.returnType = ret) (hlocks : meth.locks = false) {pc : Nat} {H : Heap} {ls : Array Slot} (hdg : decode code pc = .ok (.ireturn, 1)) : W p l e room_1 s m #[Value.ref b] below meth c H [] 96 1076 (lw_Z below #[Value.ref b] s) (F0 m pc ls [.int 1]) := by
  intro T hT X
  obtain ⟨fs, hret, hrun, hended, hW, hframe⟩ := X.leave (v := some (.int 1)) (hlocks := hlocks) (fun h => by rw [hr] at h; cases h)
  have hmeth' : T.vm.method? m = some meth := X.method'
  refine ⟨T.setFrames fs, ?_, .returned (some (.int 1)), hrun, hended, rfl, ⟨_, rfl⟩, hW, hframe⟩
  jvm_step X.here [X.here.top, hx, hb, hdg, hmeth', hr, ret, narrow_b1]
  (try refine ⟨rfl, ?_⟩); (try refine ⟨rfl, ?_⟩)
  first | (intro acts; rw [hret _ acts rfl rfl rfl]) | rw [hret _ _ rfl rfl rfl]
  exact Steps.refl _
/-- what holds at the law's entry: the machine, the code, the tables' words (any of lw_tbl by 'hts w (by decide +kernel)'), the script of L ints xs at the cell b, what the Statement gives of the start (any of its parts by flat_of_before) -/
def lw_At (p : Program) (s : State) (m : MethodId) (meth : Method) (c : Code) (b L : Nat) (xs : Nat → Int32) : Prop :=
  p.tables.exec = Jvm.exec ∧ c.code = code ∧ meth.sig.returnType = ret ∧ c.maxLocals = 24 ∧ s.vm.findClass R_law = some m.cls ∧ (∀ w ∈ lw_tbl, w.before #[Value.ref b] s = true) ∧ va_X b L xs s s.heap ∧ b < s.heap.size ∧ meth.locks = false ∧ (Jvm.Cond.and given_1 narrow_1).before #[Value.ref b] s = true
abbrev wl (cI : ClassId) (q : Nat → Nat) (a1 a2 : Nat) (sh sp ld nm tx ds ct : Nat → Int32) (co : Int64) (kg : Int32) (ks sg lq : Nat → Int32) : va_W := wx cI q sh sp ld nm tx ds ct co kg ks ++ [(a1, .inl (cI, 32, .inl sg)), (a2, .inl (cI, 32, .inl lq))]
/-- the class's state against the law's own rows -/
def lqR (sh ld nm tx ds ct : Nat → Int32) (kg : Int32) (ks sg lq : Nat → Int32) (T K Ld NT NK : Nat → Nat) : Prop :=
  (∀ g, g < 8 → S25 (sh g)) ∧ (∀ w, w < 32 → Ld w ≤ 8 ∧ ld w = ix (Ld w) ∧ lq w = ix (Ld w)) ∧ (∀ p, p < 8 → NT p < 32768 ∧ NK p ≤ 5 ∧ nm p = nI (32768 * NK p + NT p)) ∧
  (∀ w, w < 32 → K w ≤ 5 ∧ T w < 8 ^ K w ∧ tx w = nI (32768 * K w + T w) ∧ (∀ j, j < K w → S25 (ct (w * 5 + j))) ∧ sg w = nI (if K w = 0 then 0 else 1)) ∧ kpOK (fun gk gt p => sa (toldC sh ct ds K gk gt) Ld (arrC NK NT gk gt) 31 0 p tk0) kg ks
section RELS
variable {sh sp ld nm tx ds ct : Nat → Int32} {co : Int64} {kg : Int32} {ks sg lq : Nat → Int32} {T K Ld NT NK : Nat → Nat}
theorem lqR.hG (h : lqR sh ld nm tx ds ct kg ks sg lq T K Ld NT NK) : ∀ w, w < 32 → T w < 32768 ∧ K w ≤ 5 ∧ tx w = nI (32768 * K w + T w) ∧ ∀ j, j < K w → S25 (ct (w * 5 + j)) := fun w hw => by
  obtain ⟨h1, h2, h3, h5, -⟩ := h.2.2.2.1 w hw
  have h4 := p8_le h1
  exact ⟨by omega, h1, h3, h5⟩
theorem lqR.hLd (h : lqR sh ld nm tx ds ct kg ks sg lq T K Ld NT NK) : ∀ w, w < 32 → Ld w ≤ 8 ∧ ld w = ix (Ld w) := fun w hw => ⟨(h.2.1 w hw).1, (h.2.1 w hw).2.1⟩
theorem lqR.hlq (h : lqR sh ld nm tx ds ct kg ks sg lq T K Ld NT NK) : ∀ w, w < 32 → lq w = ix (Ld w) := fun w hw => (h.2.1 w hw).2.2
theorem lqR.hS0 (h : lqR sh ld nm tx ds ct kg ks sg lq T K Ld NT NK) : ∀ w, w < 32 → T w < 8 ^ K w := fun w hw => (h.2.2.2.1 w hw).2.1
theorem lqR.hK5 (h : lqR sh ld nm tx ds ct kg ks sg lq T K Ld NT NK) : ∀ w, w < 32 → K w ≤ 5 := fun w hw => (h.2.2.2.1 w hw).1
theorem lqR.hsg (h : lqR sh ld nm tx ds ct kg ks sg lq T K Ld NT NK) {w : Nat} (hw : w < 32) : sg w = nI (if K w = 0 then 0 else 1) := (h.2.2.2.1 w hw).2.2.2.2
theorem lqR.stroke (h : lqR sh ld nm tx ds ct kg ks sg lq T K Ld NT NK) {g : Nat} {x : Int32} (hx : S25 x) : lqR (upd sh g x) ld nm tx ds ct (nI 0) ks sg lq T K Ld NT NK := by
  refine ⟨fun v hv => ?_, h.2.1, h.2.2.1, h.2.2.2.1, kp_0 _ _⟩
  by_cases e : v = g
  · subst e; rw [pk_us]; exact hx
  · rw [pk_un e]; exact h.1 v hv
theorem lqR.lead (h : lqR sh ld nm tx ds ct kg ks sg lq T K Ld NT NK) {g a : Nat} (ha : a ≤ 8) : lqR sh (upd ld g (ix a)) nm tx ds ct (nI 0) ks sg (upd lq g (ix a)) T K (fun w => if w = g then a else Ld w) NT NK := by
  refine ⟨h.1, fun v hv => ?_, h.2.2.1, h.2.2.2.1, kp_0 _ _⟩
  show (if v = g then a else Ld v) ≤ 8 ∧ upd ld g (ix a) v = ix (if v = g then a else Ld v) ∧ upd lq g (ix a) v = ix (if v = g then a else Ld v)
  by_cases e : v = g
  · subst e; rw [pk_us, pk_us, if_pos rfl]; exact ⟨ha, rfl, rfl⟩
  · rw [pk_un e, pk_un e, if_neg e]; exact h.2.1 v hv
theorem lqR.name (h : lqR sh ld nm tx ds ct kg ks sg lq T K Ld NT NK) {g t k : Nat} (hk : k ≤ 5) (ht : t < 8 ^ k) : lqR sh ld (upd nm g (nI (32768 * k + t))) tx ds ct (nI 0) ks sg lq T K Ld (fun w => if w = g then t else NT w) (fun w => if w = g then k else NK w) := by
  have h8 := p8_le hk
  refine ⟨h.1, h.2.1, fun v hv => ?_, h.2.2.2.1, kp_0 _ _⟩
  show (if v = g then t else NT v) < 32768 ∧ (if v = g then k else NK v) ≤ 5 ∧ upd nm g (nI (32768 * k + t)) v = nI (32768 * (if v = g then k else NK v) + (if v = g then t else NT v))
  by_cases e : v = g
  · subst e; simp only [pk_us, if_true]; exact ⟨by omega, hk, trivial⟩
  · simp only [pk_un e, if_neg e]; exact h.2.2.1 v hv
theorem lqR.cut (h : lqR sh ld nm tx ds ct kg ks sg lq T K Ld NT NK) {g t k : Nat} {d : Int32} (hg : g < 32) (hk1 : 1 ≤ k) (hk : k ≤ 5) (ht : t < 8 ^ k) : lqR sh ld nm (upd tx g (nI (32768 * k + t))) (upd ds g d) (engF sh ct g t k) (nI 0) ks (upd sg g (nI 1)) lq (fun w => if w = g then t else T w) (fun w => if w = g then k else K w) Ld NT NK := by
  have h8 := p8_le hk
  refine ⟨h.1, h.2.1, h.2.2.1, fun v hv => ?_, kp_0 _ _⟩
  show (if v = g then k else K v) ≤ 5 ∧ (if v = g then t else T v) < 8 ^ (if v = g then k else K v) ∧ upd tx g (nI (32768 * k + t)) v = nI (32768 * (if v = g then k else K v) + (if v = g then t else T v)) ∧ (∀ j, j < (if v = g then k else K v) → S25 (engF sh ct g t k (v * 5 + j))) ∧ upd sg g (nI 1) v = nI (if (if v = g then k else K v) = 0 then 0 else 1)
  by_cases e : v = g
  · subst e
    simp only [pk_us, if_true]
    refine ⟨hk, ht, trivial, fun j hj => ?_, ?_⟩
    · rw [eng_in hj]; exact h.1 _ (dg_lt _ _)
    · rw [if_neg (by omega)]
  · simp only [pk_un e, if_neg e]
    obtain ⟨h1, h2, h3, h4, h5⟩ := h.2.2.2.1 v hv
    refine ⟨h1, h2, h3, fun j hj => ?_, h5⟩
    rw [eng_out (fun i hi => by omega)]
    exact h4 j hj
theorem lqR.remove (h : lqR sh ld nm tx ds ct kg ks sg lq T K Ld NT NK) {g : Nat} : lqR sh ld nm (upd tx g (nI 0)) ds ct (nI 0) ks (upd sg g (nI 0)) lq (fun w => if w = g then 0 else T w) (fun w => if w = g then 0 else K w) Ld NT NK := by
  refine ⟨h.1, h.2.1, h.2.2.1, fun v hv => ?_, kp_0 _ _⟩
  show (if v = g then 0 else K v) ≤ 5 ∧ (if v = g then 0 else T v) < 8 ^ (if v = g then 0 else K v) ∧ upd tx g (nI 0) v = nI (32768 * (if v = g then 0 else K v) + (if v = g then 0 else T v)) ∧ (∀ j, j < (if v = g then 0 else K v) → S25 (ct (v * 5 + j))) ∧ upd sg g (nI 0) v = nI (if (if v = g then 0 else K v) = 0 then 0 else 1)
  by_cases e : v = g
  · subst e; simp only [pk_us, if_true]; exact ⟨by decide, by decide, trivial, fun j hj => absurd hj (Nat.not_lt_zero _), trivial⟩
  · simp only [pk_un e, if_neg e]; exact h.2.2.2.1 v hv
theorem lqR.walk (h : lqR sh ld nm tx ds ct kg ks sg lq T K Ld NT NK) {kg2 : Int32} {ks2 : Nat → Int32} (hk : kpOK (fun gk gt p => sa (toldC sh ct ds K gk gt) Ld (arrC NK NT gk gt) 31 0 p tk0) kg2 ks2) : lqR sh ld nm tx ds ct kg2 ks2 sg lq T K Ld NT NK := ⟨h.1, h.2.1, h.2.2.1, h.2.2.2.1, hk⟩
theorem lqR.had (h : lqR sh ld nm tx ds ct kg ks sg lq T K Ld NT NK) {w : Nat} (hw : w < 32) : bI (!decide (tx w = 0)) = nI (if K w = 0 then 0 else 1) := by
  obtain ⟨h1, h2, h3, -⟩ := h.2.2.2.1 w hw
  have h4 := p8_le h1
  by_cases hz : K w = 0
  · have h5 : tx w = 0 := by
      rw [hz] at h2 h3
      rw [h3, show T w = 0 by simpa using h2]
      rfl
    rw [if_pos hz, decide_eq_true h5]
    rfl
  · have h5 : tx w ≠ 0 := fun q => by
      rw [h3, ← nI_0] at q
      have := nI_inj (by omega) (by decide) q
      omega
    rw [if_neg hz, decide_eq_false h5]
    rfl
theorem lqR.rd (h : lqR sh ld nm tx ds ct kg ks sg lq T K Ld NT NK) {w : Nat} (hw : w < 32) (hz : K w ≠ 0) : ∃ r, r < 32768 ∧ (if K w = 0 then (-1) else nI (rtN (rdS sh ct ds w) (K w))) = nI r := by
  have h1 := rtN_lt (r := rdS sh ct ds w) (fun _ => rdG_lt _ _) (K w)
  have h2 := p8_le (h.hK5 w hw)
  exact ⟨_, by omega, if_neg hz⟩
theorem old_cut {g t k a bb : Nat} : bI (anyB (oldC sh (engF sh ct g t k) g (if g = g then t else a)) (if g = g then k else bb)) = nI 0 := by
  rw [if_pos rfl, if_pos rfl, old_eng]
  rfl
theorem old_rm {f : Nat → Bool} {g bb : Nat} : bI (anyB f (if g = g then 0 else bb)) = nI 0 := by
  rw [if_pos rfl]
  rfl
theorem walk_here {told : Nat → Bool} {g t k : Nat} : sa told Ld (arrC (fun w => if w = g then k else NK w) (fun w => if w = g then t else NT w) k t) 31 0 g tk0 = nI 0 := sa_a (f := 30) (decide_eq_true ⟨if_pos rfl, if_pos rfl⟩)
theorem sp_rg : ∀ y, y < 5 → ¬ (nI y - nI 1 < -1) ∧ nI y - nI 1 ≤ nI 3 := by decide
theorem ld_rg : ∀ y, y < 9 → nI y - nI 1 = ix (if y = 0 then 8 else y - 1) := by decide
/-- where a stroke's end lies -/
def jX (x far : Nat) (v : Int32) : Prop := ∃ c1, c1 < 5 ∧ nI x + v = nI c1 ∧ ((v = 0 ∧ c1 = x) ∨ (v ≠ 0 ∧ dist x c1 = far))
def jY (y far : Nat) (dx v : Int32) : Prop := ∃ d1, d1 < 5 ∧ nI y + v = nI d1 ∧ (d1 = y ∨ (dx ≠ 0 ∧ dist y d1 = far))
theorem jX_1 : ∀ x, x < 5 → ∀ far, far < 5 → x + far < 5 → (nI x + nI far = nI (x + far) ∧ ((nI far = 0 ∧ x + far = x) ∨ (nI far ≠ 0 ∧ dist x (x + far) = far))) := by decide
theorem jX_2 : ∀ x, x < 5 → ∀ far, far < 5 → nI x - nI far < 0 ∨ (x - far < 5 ∧ nI x + -nI far = nI (x - far) ∧ ((-nI far = 0 ∧ x - far = x) ∨ (-nI far ≠ 0 ∧ dist x (x - far) = far))) := by decide
theorem jX_a {x far : Nat} (hx : x < 5) (hf : far < 5) (h : x + far < 5) : jX x far (nI far) := ⟨x + far, h, (jX_1 x hx far hf h).1, (jX_1 x hx far hf h).2⟩
theorem jX_b {x far : Nat} (hx : x < 5) (hf : far < 5) (h : ¬ (nI x - nI far < 0)) : jX x far (-nI far) := have h2 := (jX_2 x hx far hf).resolve_left h; ⟨x - far, h2.1, h2.2.1, h2.2.2⟩
theorem jX_c {x far : Nat} (hx : x < 5) : jX x far (nI 0) := ⟨x, hx, by rw [nI_0, Int32.add_zero], Or.inl ⟨rfl, rfl⟩⟩
theorem jY_a {y far : Nat} {dx : Int32} (hf : far < 5) (h : y + far < 5) (hd : dx ≠ 0) : jY y far dx (nI far) := ⟨y + far, h, nI_add y far, Or.inr ⟨hd, by unfold dist; split <;> omega⟩⟩
theorem jY_c {y far : Nat} {dx : Int32} (hy : y < 5) : jY y far dx (nI 0) := ⟨y, hy, by rw [nI_0, Int32.add_zero], Or.inl rfl⟩
theorem ln_of {x y c1 d1 far : Nat} {dx : Int32} (h1 : (dx = 0 ∧ c1 = x) ∨ (dx ≠ 0 ∧ dist x c1 = far)) (h2 : d1 = y ∨ (dx ≠ 0 ∧ dist y d1 = far)) : lnK x y c1 d1 = true := by
  refine decide_eq_true ?_
  rcases h2 with rfl | ⟨h3, h4⟩
  · refine Or.inr (Or.inl ?_)
    unfold dist
    split <;> omega
  · rcases h1 with ⟨h5, -⟩ | ⟨-, h6⟩
    · exact absurd h5 h3
    · exact Or.inr (Or.inr (h6.trans h4.symm))
def lqI (D : va_G) (cI : ClassId) (q : Nat → Nat) (a1 a2 : Nat) (co : Int64) (s : State) (H : Heap) (locs : List Loc) : Prop :=
  ∃ (sh sp ld nm tx ds ct : Nat → Int32) (kg : Int32) (ks sg lq : Nat → Int32) (T K Ld NT NK : Nat → Nat), lqR sh ld nm tx ds ct kg ks sg lq T K Ld NT NK ∧ va_P D vwCl (wl cI q a1 a2 sh sp ld nm tx ds ct co kg ks sg lq) H ∧ va_D (fun a : Nat => s.heap.size ≤ a) (wl cI q a1 a2 sh sp ld nm tx ds ct co kg ks sg lq) ∧ va_S (fun a : Nat => s.heap.size ≤ a) s.heap H locs
theorem lqI_mk {D : va_G} {cI : ClassId} {q : Nat → Nat} {a1 a2 : Nat} {s : State} {H : Heap} {locs : List Loc} (hR : lqR sh ld nm tx ds ct kg ks sg lq T K Ld NT NK) (hP : va_P D vwCl (wl cI q a1 a2 sh sp ld nm tx ds ct co kg ks sg lq) H) (hD : va_D (fun a : Nat => s.heap.size ≤ a) (wl cI q a1 a2 sh sp ld nm tx ds ct co kg ks sg lq)) (hS : va_S (fun a : Nat => s.heap.size ≤ a) s.heap H locs) : lqI D cI q a1 a2 co s H locs := ⟨sh, sp, ld, nm, tx, ds, ct, kg, ks, sg, lq, T, K, Ld, NT, NK, hR, hP, hD, hS⟩
end RELS
def lqC (p : Program) (s : State) (m : MethodId) (meth : Method) (c : Code) (b L : Nat) (xs : Nat → Int32) (D : va_G) (cI : ClassId) : Prop := lw_At p s m meth c b L xs ∧ va_K D vwCl [(cI, .int)] s ∧ L ≤ 260
abbrev lqL (b : Nat) (q : Nat → Nat) (a1 a2 : Nat) (co : Int64) (turn : Nat) : List (Nat × Value) := [(0, .ref b), (1, .ref (q 0)), (2, .ref a1), (3, .ref a2), (4, .long co), (6, .int (nI turn))]
abbrev lqM (b : Nat) (q : Nat → Nat) (a1 a2 : Nat) (co : Int64) (turn : Nat) (vv ww : Int32) : List (Nat × Value) := lqL b q a1 a2 co turn ++ [(7, .int vv), (8, .int ww), (15, .int (nI 1))]
abbrev lqN (b : Nat) (q : Nat → Nat) (a1 a2 : Nat) (co : Int64) (turn : Nat) (vv ww : Int32) (p0 x0 k t : Nat) : List (Nat × Value) := lqM b q a1 a2 co turn vv ww ++ [(10, .int (nI p0)), (11, .int (nI x0)), (12, .int (nI (p0 * 4 + x0))), (13, .int (nI k)), (14, .int (nI t))]
