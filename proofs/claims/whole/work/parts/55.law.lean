/-! THE CLAIM OUT OF ONE WALK OF THE LAW'S BODY. Your part is whole_start (and what it stands on); all else here is the same for every law, but numbers. -/
def R_law : String := "SignRailLaw"
def lw_P (b : Addr) (xs : List Int32) (args : Array Value) (s : State) : Prop := args = #[.ref b] ∧ s.IntsAt b xs ∧ xs.length ≤ 3584 ∧ (Jvm.Cond.and given_1 narrow_1).before args s = true
def lw_Q (_ : Array Value) (s : State) (o : Outcome) (t : State) : Prop := o = .returned (some (.int 1)) ∧ Framed s o t [] 622909 7227376
def lw_Z (below : List Frame) (a : Array Value) (s : State) : State → Prop := fun t => ∃ o, t.status = .running ∧ Ended t below o ∧ lw_Q a s o t
/-- the law's own end, with 1 on the stack, nothing written that was there before, its room as the claim has it -/
theorem lw_ret {p : Program} {l : Launch} {e : Env} {s : State} {m : MethodId} {below : List Frame} {meth : Method} {c : Code} {b : Nat} (hx : p.tables.exec = Jvm.exec) (hb : c.code = code) (hr : meth.sig.returnType = ret) (hlocks : meth.locks = false) {pc : Nat} {H : Heap} {ls : Array Slot} (hdg : decode code pc = .ok (.ireturn, 1)) : W p l e room_1 s m #[Value.ref b] below meth c H [] 622909 7227376 (lw_Z below #[Value.ref b] s) (F0 m pc ls [.int 1]) := by
  intro T hT X
  obtain ⟨fs, hret, hrun, hended, hW, hframe⟩ := X.leave (v := some (.int 1)) (hlocks := hlocks) (fun h => by rw [hr] at h; cases h)
  have hmeth' : T.vm.method? m = some meth := X.method'
  refine ⟨T.setFrames fs, ?_, .returned (some (.int 1)), hrun, hended, rfl, ⟨_, rfl⟩, hW, hframe⟩
  jvm_step X.here [X.here.top, hx, hb, hdg, hmeth', hr, ret, narrow_b1]
  (try refine ⟨rfl, ?_⟩); (try refine ⟨rfl, ?_⟩)
  first | (intro acts; rw [hret _ acts rfl rfl rfl]) | rw [hret _ _ rfl rfl rfl]
  exact Steps.refl _
/-- what holds at the law's entry: the machine, the code, the tables' words (any of lw_tbl by 'hts w (by decide +kernel)'), the script of L ints xs at the cell b, what the Statement gives of the start (any of its parts by flat_of_before) -/
def lw_At (p : Program) (s : State) (m : MethodId) (meth : Method) (c : Code) (b L : Nat) (xs : Nat → Int32) : Prop :=
  p.tables.exec = Jvm.exec ∧ c.code = code ∧ meth.sig.returnType = ret ∧ c.maxLocals = 7 ∧ s.vm.findClass R_law = some m.cls ∧ (∀ w ∈ lw_tbl, w.before #[Value.ref b] s = true) ∧ va_X b L xs s s.heap ∧ b < s.heap.size ∧ meth.locks = false ∧ (Jvm.Cond.and given_1 narrow_1).before #[Value.ref b] s = true
section KLAW
variable {p : Program} {l : Launch} {e : Env} {R : Room} {s : State} {m : MethodId} {args : Array Value} {below : List Frame} {meth : Method} {c : Code} {H : Heap} {locs : List Loc} {cells slots : Nat} {Q : State → Prop}
variable {y : MethodName} {bytes cc : ByteArray} {maxL nL n index pc : Nat} {ret : Option FieldType} {ws : List Cond} {rm : Room} {Ts : List Cond} {own C : String} {b : Addr} {As rest st0 : List Value} {ls : Array Slot} {B : State → Prop} {mc ms : Nat} {hh : List (Nat × Nat × Nat × Nat)}
theorem k_callTW {S : Type} {D : va_G} {w : va_W} {px : S → Prop} {w' : S → va_W} {ans : S → Option Value} (F : CallFix p m c cc nL s args Ts own) (hM : Met l y ws rm (k_P As B) (k_WQ D w px w' ans) mc ms (k_A w)) (cw : vx_CSW R s args own index y bytes maxL ret hh ws rm mc ms n)
    (hbl : k_bl B) (hB : ∀ U : State, U.heap = H → s.WarmedH U.vm → B U) (hn : As.length = n) (hsize : ls.size = nL) (hst : st0 = As.reverse ++ rest) (hW : (rest.map fun v => v.category).sum ≤ 8) (hdg : decode cc pc = .ok (.invokestatic index, 3)) (hf : cells + mc ≤ R.cells ∧ slots + ms ≤ R.slots)
    {A : Nat → Prop} {H0 : Heap} {wc wr : va_W} (hP : va_P D vwCl wc H) (hD : va_D A wc) (hS : va_S A H0 H locs) (isR isC : List Nat) (hmap : (isR ++ isC).map (fun i => wc[i]?) = (wr ++ w).map some) (hnd : va_nd (isR ++ isC) = true) (hm : ∀ u, (w' u).map Prod.fst = w.map Prod.fst)
    (kk : ∀ (u : S) (H1 : Heap) (locs1 : List Loc), px u → va_P D vwCl (wr ++ w' u) H1 → va_D A (wr ++ w' u) → va_S A H0 H1 locs1 → W p l e R s m args below meth c H1 locs1 (cells + mc) (slots + ms) Q (F0 m (pc + 3) ls ((ans u).toList ++ rest))) : W p l e R s m args below meth c H locs cells slots Q (F0 m pc ls st0) := by
  subst hst
  exact k_goW (vx_runSW (H := H) (locs := locs) (cells := cells) (slots := slots) (g := F0 m pc ls (As.reverse ++ rest)) (rest := rest) F hM cw ⟨k_P_bl hbl, fun U hU hW => ⟨rfl, hB U hU hW⟩⟩ rfl hn hsize rfl (lv_room hW) hdg hf) hP hD hS isR isC hmap hnd hm (fun u H1 locs1 h1 h2 h3 h4 _ _ => kk u H1 locs1 h1 h2 h3 h4)
theorem n_lcmpEq (hexec : p.tables.exec = Jvm.exec) (hb : c.code = cc) {x z : Int64} (h : x = z) (hdg : decode cc pc = .ok (.lcmp, 1)) (k : W p l e R s m args below meth c H locs cells slots Q (F0 m (pc + 1) ls (.int (nI 0) :: rest))) : W p l e R s m args below meth c H locs cells slots Q (F0 m pc ls (.long z :: .long x :: rest)) := by
  subst h
  intro T hT X
  obtain ⟨t, a, b⟩ := k T hT X
  refine ⟨t, ?_, b⟩
  jvm_step X.here [X.here.top, hexec, hb, hdg]
  exact a
theorem n_sld (hexec : p.tables.exec = Jvm.exec) (hb : c.code = cc) {bb L : Nat} {xs : Nat → Int32} {A : Nat → Prop} {H0 : Heap} (hX : va_X bb L xs s H0) (hbl : bb < H0.size) (hbA : ¬ A bb) (hS : va_S A H0 H locs) {k : Nat} (hk : k < L) (hL : L < 2 ^ 31) (hdg : decode cc pc = .ok (.iaload, 1))
    (kk : W p l e R s m args below meth c H locs cells slots Q (F0 m (pc + 1) ls (.int (xs k) :: rest))) : W p l e R s m args below meth c H locs cells slots Q (F0 m pc ls (.int (nI k) :: .ref bb :: rest)) :=
  va_sld hexec hb hX hbl hbA hS (vp_in_nI hk hL) hdg (by rw [nI_clamp (Nat.lt_trans hk hL)]; exact kk)
theorem n_lald (hexec : p.tables.exec = Jvm.exec) (hb : c.code = cc) {D : va_G} {cl : List vw_C} {tys : List (ClassId × FieldType)} {ws : va_W} {a : Nat} (hK : va_K D cl tys s) (hP : va_P D cl ws H) (q0 t0 : Nat) {cA : ClassId} {f : Nat → Int64} {x : Int64} (ha : ws[q0]? = some (a, .inl (cA, 1, .inr (.inl (vp_updL f 0 x))))) (ht : tys[t0]? = some (cA, .long)) (hdg : decode cc pc = .ok (.laload, 1))
    (kk : W p l e R s m args below meth c H locs cells slots Q (F0 m (pc + 1) ls (.long x :: rest))) : W p l e R s m args below meth c H locs cells slots Q (F0 m pc ls (.int (nI 0) :: .ref a :: rest)) :=
  va_lald hexec hb hK hP q0 t0 ha ht (vp_in_nI (by decide) (by decide)) hdg (by rw [nI_clamp (by decide), vp_updL_0]; exact kk)
end KLAW
theorem k_ex_mv {A : Nat → Prop} {s : State} {H : Heap} {locs : List Loc} (h : k_ex s) (hS : va_S A s.heap H locs) (hA : ∀ q, q < s.heap.size → ¬ A q) : ∀ U : State, U.heap = H → s.WarmedH U.vm → k_ex U := fun U hU hW => ⟨by rw [hU]; exact vx_Zq.moved hW.alike (h.1.kept (fun a h1 _ => hS.2.1 a h1 (hA a h1))), by rw [hU]; exact vx_Zq.moved hW.alike (h.2.1.kept (fun a h1 _ => hS.2.1 a h1 (hA a h1))), k_nw_warm hW h.2.2.1, fun q hq => (h.2.2.2 q hq).imp fun sa hs => vk_R.warm hW hs⟩
/-- the class's state and the reference's speak of the same station -/
def lwR (sh ld nm tx ds ct : Nat → Int32) (kg : Int32) (ks : Nat → Int32) (nm2 nk tx2 mn ct2 : Nat → Int32) (T K T2 Ld NT NK : Nat → Nat) : Prop :=
  (∀ g, g < 8 → S25 (sh g)) ∧ (∀ w, w < 32 → Ld w ≤ 8 ∧ ld w = ix (Ld w)) ∧ (∀ p, p < 8 → NT p < 32768 ∧ NK p ≤ 5 ∧ nm p = nI (32768 * NK p + NT p) ∧ nm2 p = nI (NT p) ∧ nk p = nI (NK p)) ∧
  (∀ w, w < 32 → K w ≤ 5 ∧ T w < 8 ^ K w ∧ tx w = nI (32768 * K w + T w) ∧ mn w = nI (K w) ∧ T2 w < 32768 ∧ tx2 w = nI (T2 w) ∧ (K w ≠ 0 → T2 w = T w)) ∧ ctRel K ct ct2 ∧ kpOK (fun gk gt p => sa (toldC sh ct ds K gk gt) Ld (arrC NK NT gk gt) 31 0 p tk0) kg ks
section RELS
variable {sh ld nm tx ds ct : Nat → Int32} {kg : Int32} {ks nm2 nk tx2 mn ct2 : Nat → Int32} {T K T2 Ld NT NK : Nat → Nat}
theorem lwR.hG (h : lwR sh ld nm tx ds ct kg ks nm2 nk tx2 mn ct2 T K T2 Ld NT NK) : ∀ w, w < 32 → T w < 32768 ∧ K w ≤ 5 ∧ tx w = nI (32768 * K w + T w) ∧ ∀ j, j < K w → S25 (ct (w * 5 + j)) := fun w hw => by
  obtain ⟨h1, h2, h3, -⟩ := h.2.2.2.1 w hw
  have h4 := p8_le h1
  exact ⟨by omega, h1, h3, fun j hj => (h.2.2.2.2.1 w hw j hj).1⟩
theorem lwR.hG2 (h : lwR sh ld nm tx ds ct kg ks nm2 nk tx2 mn ct2 T K T2 Ld NT NK) : ∀ w, w < 32 → T2 w < 32768 ∧ K w ≤ 5 ∧ tx2 w = nI (T2 w) ∧ mn w = nI (K w) := fun w hw => by
  obtain ⟨h1, h2, h3, h4, h5, h6, -⟩ := h.2.2.2.1 w hw
  exact ⟨h5, h1, h6, h4⟩
theorem lwR.hGk (h : lwR sh ld nm tx ds ct kg ks nm2 nk tx2 mn ct2 T K T2 Ld NT NK) : ∀ w, w < 32 → K w ≤ 5 ∧ mn w = nI (K w) := fun w hw => ⟨(h.2.2.2.1 w hw).1, (h.2.2.2.1 w hw).2.2.2.1⟩
theorem lwR.hK (h : lwR sh ld nm tx ds ct kg ks nm2 nk tx2 mn ct2 T K T2 Ld NT NK) : ∀ w, w < 32 → K w ≤ 5 := fun w hw => (h.2.2.2.1 w hw).1
theorem lwR.hT (h : lwR sh ld nm tx ds ct kg ks nm2 nk tx2 mn ct2 T K T2 Ld NT NK) : ∀ w, w < 32 → K w ≠ 0 → T2 w = T w := fun w hw => (h.2.2.2.1 w hw).2.2.2.2.2.2
theorem lwR.hS0 (h : lwR sh ld nm tx ds ct kg ks nm2 nk tx2 mn ct2 T K T2 Ld NT NK) : ∀ w, w < 32 → T w < 8 ^ K w := fun w hw => (h.2.2.2.1 w hw).2.1
theorem lwR.hN (h : lwR sh ld nm tx ds ct kg ks nm2 nk tx2 mn ct2 T K T2 Ld NT NK) : ∀ p, p < 8 → NT p < 32768 ∧ NK p ≤ 5 ∧ nm p = nI (32768 * NK p + NT p) := fun p hp => ⟨(h.2.2.1 p hp).1, (h.2.2.1 p hp).2.1, (h.2.2.1 p hp).2.2.1⟩
theorem lwR.hN2 (h : lwR sh ld nm tx ds ct kg ks nm2 nk tx2 mn ct2 T K T2 Ld NT NK) : ∀ p, p < 8 → NT p < 32768 ∧ NK p ≤ 5 ∧ nm2 p = nI (NT p) ∧ nk p = nI (NK p) := fun p hp => ⟨(h.2.2.1 p hp).1, (h.2.2.1 p hp).2.1, (h.2.2.1 p hp).2.2.2⟩
theorem S25_lcN {a b c d : Nat} (ha : a < 5) (hb : b < 5) (hc : c < 5) (hd : d < 5) (h : lnK a b c d = true) : S25 (lcN a b c d) := S25_of (lc_25 a ha b hb c hc d hd h)
theorem lwR.stroke (h : lwR sh ld nm tx ds ct kg ks nm2 nk tx2 mn ct2 T K T2 Ld NT NK) {g : Nat} {x : Int32} (hx : S25 x) : lwR (upd sh g x) ld nm tx ds ct (nI 0) ks nm2 nk tx2 mn ct2 T K T2 Ld NT NK := by
  refine ⟨fun v hv => ?_, h.2.1, h.2.2.1, h.2.2.2.1, h.2.2.2.2.1, kp_0 _ _⟩
  by_cases e : v = g
  · subst e; rw [pk_us]; exact hx
  · rw [pk_un e]; exact h.1 v hv
theorem lwR.lead (h : lwR sh ld nm tx ds ct kg ks nm2 nk tx2 mn ct2 T K T2 Ld NT NK) {g a : Nat} (ha : a ≤ 8) : lwR sh (upd ld g (ix a)) nm tx ds ct (nI 0) ks nm2 nk tx2 mn ct2 T K T2 (fun w => if w = g then a else Ld w) NT NK := by
  refine ⟨h.1, fun v hv => ?_, h.2.2.1, h.2.2.2.1, h.2.2.2.2.1, kp_0 _ _⟩
  show (if v = g then a else Ld v) ≤ 8 ∧ upd ld g (ix a) v = ix (if v = g then a else Ld v)
  by_cases e : v = g
  · subst e; rw [pk_us, if_pos rfl]; exact ⟨ha, rfl⟩
  · rw [pk_un e, if_neg e]; exact h.2.1 v hv
theorem lwR.name (h : lwR sh ld nm tx ds ct kg ks nm2 nk tx2 mn ct2 T K T2 Ld NT NK) {g t k : Nat} (hk : k ≤ 5) (ht : t < 8 ^ k) : lwR sh ld (upd nm g (nI (32768 * k + t))) tx ds ct (nI 0) ks (upd nm2 g (nI t)) (upd nk g (nI k)) tx2 mn ct2 T K T2 Ld (fun w => if w = g then t else NT w) (fun w => if w = g then k else NK w) := by
  have h8 := p8_le hk
  refine ⟨h.1, h.2.1, fun v hv => ?_, h.2.2.2.1, h.2.2.2.2.1, kp_0 _ _⟩
  show (if v = g then t else NT v) < 32768 ∧ (if v = g then k else NK v) ≤ 5 ∧ upd nm g (nI (32768 * k + t)) v = nI (32768 * (if v = g then k else NK v) + (if v = g then t else NT v)) ∧ upd nm2 g (nI t) v = nI (if v = g then t else NT v) ∧ upd nk g (nI k) v = nI (if v = g then k else NK v)
  by_cases e : v = g
  · subst e; simp only [pk_us, if_true]; exact ⟨by omega, hk, trivial, trivial, trivial⟩
  · simp only [pk_un e, if_neg e]; exact h.2.2.1 v hv
theorem lwR.cut (h : lwR sh ld nm tx ds ct kg ks nm2 nk tx2 mn ct2 T K T2 Ld NT NK) {g t k : Nat} {d : Int32} (hk : k ≤ 5) (ht : t < 8 ^ k) : lwR sh ld nm (upd tx g (nI (32768 * k + t))) (upd ds g d) (engF sh ct g t k) (nI 0) ks nm2 nk (upd tx2 g (nI t)) (upd mn g (nI k)) (engR sh ct2 g t k k) (fun w => if w = g then t else T w) (fun w => if w = g then k else K w) (fun w => if w = g then t else T2 w) Ld NT NK := by
  have h8 := p8_le hk
  refine ⟨h.1, h.2.1, h.2.2.1, fun v hv => ?_, eng_rel h.1 h.2.2.2.2.1 (fun v => rfl) hk h.hK, kp_0 _ _⟩
  show (if v = g then k else K v) ≤ 5 ∧ (if v = g then t else T v) < 8 ^ (if v = g then k else K v) ∧ upd tx g (nI (32768 * k + t)) v = nI (32768 * (if v = g then k else K v) + (if v = g then t else T v)) ∧ upd mn g (nI k) v = nI (if v = g then k else K v) ∧ (if v = g then t else T2 v) < 32768 ∧ upd tx2 g (nI t) v = nI (if v = g then t else T2 v) ∧ ((if v = g then k else K v) ≠ 0 → (if v = g then t else T2 v) = (if v = g then t else T v))
  by_cases e : v = g
  · subst e; simp only [pk_us, if_true]; exact ⟨hk, ht, trivial, trivial, by omega, trivial, fun _ => trivial⟩
  · simp only [pk_un e, if_neg e]; exact h.2.2.2.1 v hv
theorem lwR.remove (h : lwR sh ld nm tx ds ct kg ks nm2 nk tx2 mn ct2 T K T2 Ld NT NK) {g : Nat} : lwR sh ld nm (upd tx g (nI 0)) ds ct (nI 0) ks nm2 nk tx2 (upd mn g (nI 0)) ct2 (fun w => if w = g then 0 else T w) (fun w => if w = g then 0 else K w) T2 Ld NT NK := by
  refine ⟨h.1, h.2.1, h.2.2.1, fun v hv => ?_, fun v hv j hj => ?_, kp_0 _ _⟩
  · show (if v = g then 0 else K v) ≤ 5 ∧ (if v = g then 0 else T v) < 8 ^ (if v = g then 0 else K v) ∧ upd tx g (nI 0) v = nI (32768 * (if v = g then 0 else K v) + (if v = g then 0 else T v)) ∧ upd mn g (nI 0) v = nI (if v = g then 0 else K v) ∧ T2 v < 32768 ∧ tx2 v = nI (T2 v) ∧ ((if v = g then 0 else K v) ≠ 0 → T2 v = (if v = g then 0 else T v))
    have h0 := h.2.2.2.1 v hv
    by_cases e : v = g
    · subst e; simp only [pk_us, if_true]; exact ⟨by decide, by decide, trivial, trivial, h0.2.2.2.2.1, h0.2.2.2.2.2.1, fun q => absurd rfl q⟩
    · simp only [pk_un e, if_neg e]; exact h0
  · have hj : j < (if v = g then 0 else K v) := hj
    show S25 (ct (v * 5 + j)) ∧ ct (v * 5 + j) = ct2 (5 * v + ((if v = g then 0 else K v) - 1 - j))
    by_cases e : v = g
    · subst e
      rw [if_pos rfl] at hj
      exact absurd hj (Nat.not_lt_zero _)
    · rw [if_neg e] at hj ⊢
      exact h.2.2.2.2.1 v hv j hj
theorem lwR.remake (h : lwR sh ld nm tx ds ct kg ks nm2 nk tx2 mn ct2 T K T2 Ld NT NK) {c c2 : Nat → Int32} (hc : ctRel K c c2) : lwR sh ld nm tx ds c (nI 0) ks nm2 nk tx2 mn c2 T K T2 Ld NT NK := ⟨h.1, h.2.1, h.2.2.1, h.2.2.2.1, hc, kp_0 _ _⟩
theorem lwR.walk (h : lwR sh ld nm tx ds ct kg ks nm2 nk tx2 mn ct2 T K T2 Ld NT NK) {kg2 : Int32} {ks2 : Nat → Int32} (hk : kpOK (fun gk gt p => sa (toldC sh ct ds K gk gt) Ld (arrC NK NT gk gt) 31 0 p tk0) kg2 ks2) : lwR sh ld nm tx ds ct kg2 ks2 nm2 nk tx2 mn ct2 T K T2 Ld NT NK := ⟨h.1, h.2.1, h.2.2.1, h.2.2.2.1, h.2.2.2.2.1, hk⟩
theorem lwR.told (h : lwR sh ld nm tx ds ct kg ks nm2 nk tx2 mn ct2 T K T2 Ld NT NK) (gk gt : Nat) : ∀ w, w < 32 → toldC sh ct ds K gk gt w = toldR sh ct2 ds K gk gt w := fun w hw => told_eq h.hK h.2.2.2.2.1 gk gt hw
theorem lwR.hLd (h : lwR sh ld nm tx ds ct kg ks nm2 nk tx2 mn ct2 T K T2 Ld NT NK) : ∀ w, w < 32 → Ld w ≤ 8 := fun w hw => (h.2.1 w hw).1
theorem lwR.old (h : lwR sh ld nm tx ds ct kg ks nm2 nk tx2 mn ct2 T K T2 Ld NT NK) {w : Nat} (hw : w < 32) : anyB (oldC sh ct w (T w)) (K w) = anyB (oldR sh ct2 w (T2 w) (K w)) (K w) := by
  by_cases hz : K w = 0
  · rw [hz]; rfl
  · rw [h.hT w hw hz]
    exact old_eq (h.2.2.2.2.1 w hw)
theorem lwR.read (h : lwR sh ld nm tx ds ct kg ks nm2 nk tx2 mn ct2 T K T2 Ld NT NK) {w : Nat} (hw : w < 32) : (if K w = 0 then (-1) else nI (rtN (rdS sh ct ds w) (K w))) = (if K w = 0 then (-1) else nI (rrN (rdR sh ct2 ds w) (K w))) := by
  rw [read_eq (h.hK w hw) (h.2.2.2.2.1 w hw)]
theorem lwR.had (h : lwR sh ld nm tx ds ct kg ks nm2 nk tx2 mn ct2 T K T2 Ld NT NK) {w : Nat} (hw : w < 32) : (!decide (tx w = 0)) = (!decide (K w = 0)) := by
  obtain ⟨h1, h2, h3, -⟩ := h.2.2.2.1 w hw
  have h4 := p8_le h1
  have h5 : tx w = 0 ↔ K w = 0 := by
    rw [h3, ← nI_0]
    constructor
    · intro q
      have := nI_inj (by omega) (by decide) q
      omega
    · intro q
      rw [q] at h2 ⊢
      simp at h2
      rw [h2]
  simp only [h5]
end RELS
theorem cd1_le (a : Bool) : cd1 a < 2 ^ 31 := by cases a <;> decide
theorem cd2_le (a b : Bool) : cd2 a b < 2 ^ 31 := by cases a <;> cases b <;> decide
theorem cd3_le (a b c : Bool) : cd3 a b c < 2 ^ 31 := by cases a <;> cases b <;> cases c <;> decide
abbrev lwW (cI : ClassId) (q : Nat → Nat) (cI2 cZ : ClassId) (q2 : Nat → Nat) (o : Nat) (cJ : ClassId) (sh sp ld nm tx ds ct : Nat → Int32) (co : Int64) (kg : Int32) (ks : Nat → Int32) (th : Int32) (nm2 nk tx2 mn ct2 : Nat → Int32) (st at0 ha : Int32) (tk : Nat → Int32) (f : Nat → Int64) : va_W := wx cI q sh sp ld nm tx ds ct co kg ks ++ wm cI2 cZ q2 th sh sp ld nm2 nk tx2 mn ds ct2 co st at0 ha tk ++ [wo o cJ f]
def lwI (D : va_G) (cI : ClassId) (q : Nat → Nat) (cI2 cZ : ClassId) (q2 : Nat → Nat) (o : Nat) (cJ : ClassId) (s : State) (H : Heap) (locs : List Loc) : Prop :=
  ∃ (sh sp ld nm tx ds ct : Nat → Int32) (co : Int64) (kg : Int32) (ks : Nat → Int32) (th : Int32) (nm2 nk tx2 mn ct2 : Nat → Int32) (st at0 ha : Int32) (tk : Nat → Int32) (f : Nat → Int64) (T K T2 Ld NT NK : Nat → Nat), lwR sh ld nm tx ds ct kg ks nm2 nk tx2 mn ct2 T K T2 Ld NT NK ∧ va_P D vwCl (lwW cI q cI2 cZ q2 o cJ sh sp ld nm tx ds ct co kg ks th nm2 nk tx2 mn ct2 st at0 ha tk f) H ∧ va_D (fun a : Nat => s.heap.size ≤ a) (lwW cI q cI2 cZ q2 o cJ sh sp ld nm tx ds ct co kg ks th nm2 nk tx2 mn ct2 st at0 ha tk f) ∧ va_S (fun a : Nat => s.heap.size ≤ a) s.heap H locs
def lwC (p : Program) (l : Launch) (s : State) (m : MethodId) (meth : Method) (c : Code) (b L : Nat) (xs : Nat → Int32) (D : va_G) (cI cI2 cZ cJ : ClassId) : Prop := lw_At p s m meth c b L xs ∧ l.stackTraces = false ∧ k_ex s ∧ k_nc s ∧ va_K D vwCl [(cI, .int), (cI2, .int), (cZ, .boolean), (cJ, .long)] s ∧ L ≤ 3584
abbrev lwL (b : Nat) (q q2 : Nat → Nat) (o i : Nat) : List (Nat × Value) := [(4, .int (nI i)), (3, .ref o), (2, .ref (q2 0)), (1, .ref (q 0)), (0, .ref b)]
