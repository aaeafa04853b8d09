/-! own rows: what a throw needs of a state (k_ex), the throw, a call of a method that throws -/
abbrev k_IO : String := "java/lang/IndexOutOfBoundsException"
abbrev k_IA : String := "java/lang/IllegalArgumentException"
abbrev k_IS : String := "java/lang/IllegalStateException"
abbrev k_nms : List String := ["java/lang/RuntimeException", "java/lang/Exception"]
def k_nw : List Cond := [.declares (Bundle.initS "java/lang/RuntimeException"), .declares (Bundle.initS "java/lang/Exception"), .declares (Bundle.initS Bundle.tN), .castable k_IO k_IO, .castable k_IA k_IA, .castable k_IS k_IS]
def k_strs : List (Nat × String) := [(73, "no such space"), (100, "no such distance"), (107, "too wide for any plate"), (129, "no such number of steps"), (137, "no such glyph"), (140, "no such place"), (142, "no such exit"), (144, "no such number of glyphs"), (146, "no such text"), (152, "no such cell"), (159, "no such line")]
def k_ex : State → Prop := fun U => vx_Zq Bundle.tN "UNASSIGNED_STACK" Bundle.steD k_N U U.heap ∧ vx_Zq Bundle.tN "SUPPRESSED_SENTINEL" Bundle.listD k_N U U.heap ∧ (∀ w ∈ k_nw, va_Nw w U) ∧ ∀ q ∈ k_strs, ∃ sa, vk_R RX0 q.1 q.2 sa U
theorem k_nw_ot : ∀ w ∈ k_nw, w.onTables = true := by decide
theorem k_ex_bl : k_bl k_ex := fun a U g mk h => ⟨vx_Zq.moved (u := U) (U := U.calling g mk a) (Vm.Alike.refl U.vm) h.1, vx_Zq.moved (u := U) (U := U.calling g mk a) (Vm.Alike.refl U.vm) h.2.1, fun w hw => va_Nw.same (u := U) (k_nw_ot w hw) rfl (h.2.2.1 w hw), fun q hq => (h.2.2.2 q hq).imp fun sa hs => vk_R.same (u := U) rfl hs⟩
theorem k_nw_warm {s U : State} (hW : s.WarmedH U.vm) (h : ∀ w ∈ k_nw, va_Nw w s) : ∀ w ∈ k_nw, va_Nw w U := by
  intro w hw
  have h0 := h w hw
  simp only [k_nw, List.mem_cons, List.not_mem_nil, or_false] at hw
  rcases hw with rfl | rfl | rfl | rfl | rfl | rfl
  · exact va_Nw.warmD hW h0
  · exact va_Nw.warmD hW h0
  · exact va_Nw.warmD hW h0
  · exact va_Nw.warmC hW h0
  · exact va_Nw.warmC hW h0
  · exact va_Nw.warmC hW h0
theorem k_ex_of {s : State} (h : k_ex s) : ∀ U : State, U.heap = s.heap → s.WarmedH U.vm → k_ex U := fun U hU hW => ⟨by rw [hU]; exact vx_Zq.moved hW.alike h.1, by rw [hU]; exact vx_Zq.moved hW.alike h.2.1, k_nw_warm hW h.2.2.1, fun q hq => (h.2.2.2 q hq).imp fun sa hs => vk_R.warm hW hs⟩
theorem k_ex_and {B : State → Prop} (h : k_bl B) : k_bl (fun U => B U ∧ k_ex U) := fun a U g mk q => ⟨h a U g mk q.1, k_ex_bl a U g mk q.2⟩
theorem k_gdIO : ∀ w ∈ Cond.classLink RX0 135 k_IO :: Cond.initialized k_IO :: vx_atS RX0 139 k_IO k_nms, vx_ot w = true := by decide +kernel
theorem k_gdIA : ∀ w ∈ Cond.classLink RX0 71 k_IA :: Cond.initialized k_IA :: vx_atS RX0 75 k_IA k_nms, vx_ot w = true := by decide +kernel
theorem k_gdIS : ∀ w ∈ Cond.classLink RX0 105 k_IS :: Cond.initialized k_IS :: vx_atS RX0 109 k_IS k_nms, vx_ot w = true := by decide +kernel
theorem k_ngIO : ∀ w ∈ (vx_atS RX0 139 k_IO k_nms).filter (fun w => !goodWord w), w ∈ k_nw := by decide +kernel
theorem k_ngIA : ∀ w ∈ (vx_atS RX0 75 k_IA k_nms).filter (fun w => !goodWord w), w ∈ k_nw := by decide +kernel
theorem k_ngIS : ∀ w ∈ (vx_atS RX0 109 k_IS k_nms).filter (fun w => !goodWord w), w ∈ k_nw := by decide +kernel
section KTHROW
variable {p : Program} {l : Launch} {e : Env} {R : Room} {s : State} {m : MethodId} {args : Array Value} {below : List Frame} {meth : Method} {c : Code} {cells slots : Nat}
variable {cc : ByteArray} {pc mc ms : Nat} {ls : Array Slot} {rest : List Value} {Qc : Array Value → State → Outcome → State → Prop} {px : String → Prop} {free : Addr → Prop}
theorem k_throw (hexec : p.tables.exec = Jvm.exec) (hb : c.code = cc) (hl : l.stackTraces = false) {cls text : String} {ik is ic : Nat}
    (hown : s.vm.findClass RX0 = some m.cls) (hcls : Bundle.fit cls = true) (hk : (Cond.classLink RX0 ik cls).before args s = true) (hini : (Cond.initialized cls).before args s = true) (hex : k_ex s) (hstr : (is, text) ∈ k_strs)
    (h1 : ∀ w ∈ (vx_atS RX0 ic cls k_nms).filter goodWord, w.before args s = true) (hng : ∀ w ∈ (vx_atS RX0 ic cls k_nms).filter (fun w => !goodWord w), w ∈ k_nw) (hgood : ∀ w ∈ Cond.classLink RX0 ik cls :: Cond.initialized cls :: vx_atS RX0 ic cls k_nms, vx_ot w = true)
    (hsize : ls.size = c.maxLocals) (d0 : decode cc pc = .ok (.new ik, 3)) (d3 : decode cc (pc + 3) = .ok (.dup, 1)) (d4 : decode cc (pc + 4) = .ok (.ldc is, 2)) (d6 : decode cc (pc + 6) = .ok (.invokespecial ic, 3)) (d9 : decode cc (pc + 9) = .ok (.athrow, 1))
    (ht : ∀ x ∈ c.exceptionTable.toList, False) (hRf : 5 < R.frames) (hRl : (rest.map fun v => v.category).sum + 82 ≤ R.locals) (hRc : cells + 1 ≤ R.cells) (hRs : slots + 6 ≤ R.slots) (hlocks : meth.locks = false) (hpx : px cls) (hc : cells + 1 ≤ mc) (hs : slots + 6 ≤ ms) :
    W p l e R s m args below meth c s.heap [] cells slots (vx_MQ below Qc (k_XC px) args s mc ms free) (F0 m pc ls rest) := by
  obtain ⟨sa, hsa⟩ := hex.2.2.2 _ hstr
  exact vx_throwS (A := k_N) (names := k_nms) hexec hb hl hown hcls (by decide) hk hini hsa (vx_hat h1 hng (fun w hw => va_Nw.use (k_nw_ot w hw) (hex.2.2.1 w hw))) hgood hex.1 hex.2.1 va_S.rf hsize d0 d3 d4 d6 d9 (fun x hx => (ht x hx).elim) hRf (by show _ + (13 * (2 + 1) + 43) ≤ _; omega) hRc hRs hlocks
    (fun t _ h2 h3 => ⟨hpx, h2, fun q h4 _ => h3 q h4⟩) (fun z hz => nomatch hz) hc hs
end KTHROW
section KREQ
variable {p : Program} {l : Launch} {e : Env} {R : Room} {s : State} {m : MethodId} {args : Array Value} {below : List Frame} {meth : Method} {c : Code} {H : Heap} {locs : List Loc} {cells slots : Nat}
variable {y : MethodName} {bytes cc : ByteArray} {maxL nL n index pc : Nat} {ret : Option FieldType} {ws : List Cond} {rm : Room} {Ts : List Cond} {own C : String} {b : Addr} {As rest st0 : List Value} {ls : Array Slot} {B : State → Prop} {v : Option Value} {mc ms mc' ms' : Nat} {Cp : Prop} {px px' : String → Prop} {Qc : Array Value → State → Outcome → State → Prop} {free : Addr → Prop}
theorem k_goX {a : Array Value} (hr : vx_Run p l e R s m args below meth c s.heap [] cells slots mc ms (F0 m pc ls st0) rest (k_CQ v Cp a) (k_XC px) k_N) (hpx : ∀ E, px E → px' E) (ht : ∀ x ∈ c.exceptionTable.toList, False) (hlocks : meth.locks = false) (hc : cells + mc ≤ mc') (hs : slots + ms ≤ ms')
    (kk : Cp → W p l e R s m args below meth c s.heap [] (cells + mc) (slots + ms) (vx_MQ below Qc (k_XC px') args s mc' ms' free) (F0 m (pc + 3) ls (v.toList ++ rest))) : W p l e R s m args below meth c s.heap [] cells slots (vx_MQ below Qc (k_XC px') args s mc' ms' free) (F0 m pc ls st0) := by
  intro T hT X
  rcases hr T hT X with ⟨v', st₀, t, T', L, h0, X', hL, e1, e2, ⟨hv, hh, hC⟩, st⟩ | ⟨q, st₀, t, T', L, E, ce, h0, X', hL, e1, e2, ⟨hp, hF⟩, hce, hcv, hcl, st⟩
  · cases hv
    have hL0 : L = [] := List.eq_nil_iff_forall_not_mem.mpr (fun q hq => hL q hq)
    subst hL0
    rw [List.append_nil] at X'
    obtain ⟨t2, a1, b1⟩ := kk hC T' (by rw [e1, hh, h0]) X'
    exact ⟨t2, st t2 a1, b1⟩
  · have hL0 : L = [] := List.eq_nil_iff_forall_not_mem.mpr (fun q hq => hL q hq)
    subst hL0
    rw [List.append_nil] at X'
    obtain ⟨f1, f2⟩ := hF
    rw [h0] at f1 f2
    have ko : vx_W p l e R s m args below meth c T'.heap [] (cells + mc) (slots + ms) (vx_MQ below Qc (k_XC px') args s mc' ms' free) (F0 m pc ls rest) q :=
      vx_out (fun x hx => (ht x hx).elim) hlocks (by rw [e1]; exact hce) hcv hcl (fun t1 h1 h2 => ⟨hpx E hp, by rw [h1, e1]; exact f1, fun q h3 h4 => by rw [h1, e1]; exact f2 q h3 h4⟩) (fun z hz => nomatch hz) hc hs
    obtain ⟨t2, a1, b1⟩ := ko T' rfl X'
    exact ⟨t2, st.trans a1, b1⟩
theorem k_reqS (S : CallFix p m c cc nL s args Ts own) (hM : vx_Met l y ws rm (k_P As B) (k_CQ v Cp) (k_XC px) mc ms k_N) (cw : CallB R s args own index y bytes maxL ret ws rm mc ms n ∧ (Cond.static y).before args s = true)
    (hbl : k_bl B) (hB : ∀ U : State, U.heap = s.heap → s.WarmedH U.vm → B U) (hn : As.length = n) (hsize : ls.size = nL) (hst : st0 = As.reverse ++ rest) (hW : (rest.map fun v => v.category).sum ≤ 8) (hdg : decode cc pc = .ok (.invokestatic index, 3)) (hf : cells + mc ≤ R.cells ∧ slots + ms ≤ R.slots)
    (hpx : ∀ E, px E → px' E) (ht : ∀ x ∈ c.exceptionTable.toList, False) (hlocks : meth.locks = false) (hc : cells + mc ≤ mc') (hs : slots + ms ≤ ms')
    (kk : Cp → W p l e R s m args below meth c s.heap [] (cells + mc) (slots + ms) (vx_MQ below Qc (k_XC px') args s mc' ms' free) (F0 m (pc + 3) ls (v.toList ++ rest))) : W p l e R s m args below meth c s.heap [] cells slots (vx_MQ below Qc (k_XC px') args s mc' ms' free) (F0 m pc ls st0) := by
  subst hst
  exact k_goX (vx_runS (H := s.heap) (locs := []) (cells := cells) (slots := slots) (g := F0 m pc ls (As.reverse ++ rest)) (rest := rest) S hM cw ⟨k_P_bl hbl, fun U hU hW => ⟨rfl, hB U hU hW⟩⟩ rfl hn hsize rfl (lv_room hW) hdg hf) hpx ht hlocks hc hs kk
theorem k_reqV (S : CallFix p m c cc nL s args Ts own) (hM : vx_Met l y ws rm (k_P (.ref b :: As) B) (k_CQ v Cp) (k_XC px) mc ms k_N) (cw : CallW R s args own C index y bytes maxL ret ws rm mc ms n)
    (hbl : k_bl B) (hB : ∀ U : State, U.heap = s.heap → s.WarmedH U.vm → B U) (hrec : ∃ cellB : Cell, s.heap[b]? = some cellB ∧ cellB.vm.isStatics = false ∧ s.vm.findClass C = some cellB.cls) (hn : As.length = n) (hsize : ls.size = nL) (hst : st0 = As.reverse ++ .ref b :: rest) (hW : (rest.map fun v => v.category).sum ≤ 8) (hdg : decode cc pc = .ok (.invokevirtual index, 3)) (hf : cells + mc ≤ R.cells ∧ slots + ms ≤ R.slots)
    (hpx : ∀ E, px E → px' E) (ht : ∀ x ∈ c.exceptionTable.toList, False) (hlocks : meth.locks = false) (hc : cells + mc ≤ mc') (hs : slots + ms ≤ ms')
    (kk : Cp → W p l e R s m args below meth c s.heap [] (cells + mc) (slots + ms) (vx_MQ below Qc (k_XC px') args s mc' ms' free) (F0 m (pc + 3) ls (v.toList ++ rest))) : W p l e R s m args below meth c s.heap [] cells slots (vx_MQ below Qc (k_XC px') args s mc' ms' free) (F0 m pc ls st0) := by
  subst hst
  exact k_goX (vx_runV (H := s.heap) (locs := []) (cells := cells) (slots := slots) (g := F0 m pc ls (As.reverse ++ .ref b :: rest)) (rest := rest) S hM cw ⟨k_P_bl hbl, hrec, fun U hU hW => ⟨rfl, hB U hU hW⟩⟩ rfl hn hsize rfl (lv_room hW) hdg hf) hpx ht hlocks hc hs kk
end KREQ
