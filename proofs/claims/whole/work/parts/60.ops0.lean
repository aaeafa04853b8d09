theorem lwI_mk {D : va_G} {cI : ClassId} {q : Nat → Nat} {cI2 cZ : ClassId} {q2 : Nat → Nat} {o : Nat} {cJ : ClassId} {s : State} {H : Heap} {locs : List Loc} {sh sp ld nm tx ds ct : Nat → Int32} {co : Int64} {kg : Int32} {ks : Nat → Int32} {th : Int32} {nm2 nk tx2 mn ct2 : Nat → Int32} {st at0 ha : Int32} {tk : Nat → Int32} {f : Nat → Int64} {T K T2 Ld NT NK : Nat → Nat} (hR : lwR sh ld nm tx ds ct kg ks nm2 nk tx2 mn ct2 T K T2 Ld NT NK) (hP : va_P D vwCl (wx cI q sh sp ld nm tx ds ct co kg ks ++ wm cI2 cZ q2 th sh sp ld nm2 nk tx2 mn ds ct2 co st at0 ha tk ++ [wo o cJ f]) H) (hD : va_D (fun a : Nat => s.heap.size ≤ a) (wx cI q sh sp ld nm tx ds ct co kg ks ++ wm cI2 cZ q2 th sh sp ld nm2 nk tx2 mn ds ct2 co st at0 ha tk ++ [wo o cJ f])) (hS : va_S (fun a : Nat => s.heap.size ≤ a) s.heap H locs) : lwI D cI q cI2 cZ q2 o cJ s H locs := ⟨sh, sp, ld, nm, tx, ds, ct, co, kg, ks, th, nm2, nk, tx2, mn, ct2, st, at0, ha, tk, f, T, K, T2, Ld, NT, NK, hR, hP, hD, hS⟩
set_option maxHeartbeats 4000000 in
set_option maxRecDepth 100000 in
theorem lo_stroke {p : Program} {l : Launch} {e : Env} {s : State} {m : MethodId} {below : List Frame} {meth : Method} {c : Code} {b L : Nat} {xs : Nat → Int32} {Q : State → Prop} {D : va_G} {cI cI2 cZ cJ : ClassId} {q q2 : Nat → Nat} {o : Nat} (hC : lwC p l s m meth c b L xs D cI cI2 cZ cJ) {i : Nat} (hi : i + 7 ≤ L) {cells slots : Nat} (hcc : cells + 8 ≤ room_1.cells) (hss : slots + 48 ≤ room_1.slots) {H : Heap} {locs : List Loc} (hI : lwI D cI q cI2 cZ q2 o cJ s H locs) {ls : Array Slot} (hl : lv_has ls 7 (lwL b q q2 o i)) (hk : ∀ (H : Heap) (locs : List Loc) (ls : Array Slot), lwI D cI q cI2 cZ q2 o cJ s H locs → lv_has ls 7 (lwL b q q2 o i) → W p l e room_1 s m #[Value.ref b] below meth c H locs (cells + 8) (slots + 48) Q (F0 m 1298 ls [])) : W p l e room_1 s m #[Value.ref b] below meth c H locs cells slots Q (F0 m 120 ls []) := by
  obtain ⟨C0, hst, hex, hnc, hK, hL⟩ := hC
  obtain ⟨hx, hb, hr, hml, hown, hts0, hX, hbl, hlocks, hgv⟩ := id C0
  have hts : ∀ w ∈ wsL_law, w.before #[Value.ref b] s = true := fun w h => hts0 w (wsL_law_in w h)
  have hown : s.vm.findClass RL = some m.cls := hown
  have hbA : ¬ (fun a : Nat => s.heap.size ≤ a) b := Nat.not_le.mpr hbl
  obtain ⟨sh, sp, ld, nm, tx, ds, ct, co, kg, ks, th, nm2, nk, tx2, mn, ct2, st, at0, ha, tk, f, T, K, T2, Ld, NT, NK, hR, hP, hD, hS⟩ := hI
  have hl : lv_has ls 7 [(4, .int (nI i)), (3, .ref o), (2, .ref (q2 0)), (1, .ref (q 0)), (0, .ref b)] := hl
  refine lv_aload_n hx hb dL_law_120 rfl (lv_at hl 3 rfl) ?_
  refine lv_aload_n hx hb dL_law_121 rfl (lv_at hl 4 rfl) ?_
  refine lv_iload hx hb dL_law_122 (lv_at hl 0 rfl) ?_
  refine lv_iconst (v := nI 1) hx hb dL_law_124 (by decide) ?_
  refine lv_iadd hx hb dL_law_125 ?_
  refine lv_as (y := nI (i + 1)) (nI_add _ _) ?_
  refine n_sld hx hb hX hbl hbA hS (k := i + 1) (by omega) (by omega) dL_law_126 ?_
  refine lv_aload_n hx hb dL_law_127 rfl (lv_at hl 4 rfl) ?_
  refine lv_iload hx hb dL_law_128 (lv_at hl 0 rfl) ?_
  refine lv_iconst (v := nI 2) hx hb dL_law_130 (by decide) ?_
  refine lv_iadd hx hb dL_law_131 ?_
  refine lv_as (y := nI (i + 2)) (nI_add _ _) ?_
  refine n_sld hx hb hX hbl hbA hS (k := i + 2) (by omega) (by omega) dL_law_132 ?_
  refine lv_aload_n hx hb dL_law_133 rfl (lv_at hl 4 rfl) ?_
  refine lv_iload hx hb dL_law_134 (lv_at hl 0 rfl) ?_
  refine lv_iconst (v := nI 3) hx hb dL_law_136 (by decide) ?_
  refine lv_iadd hx hb dL_law_137 ?_
  refine lv_as (y := nI (i + 3)) (nI_add _ _) ?_
  refine n_sld hx hb hX hbl hbA hS (k := i + 3) (by omega) (by omega) dL_law_138 ?_
  refine lv_aload_n hx hb dL_law_139 rfl (lv_at hl 4 rfl) ?_
  refine lv_iload hx hb dL_law_140 (lv_at hl 0 rfl) ?_
  refine lv_iconst (v := nI 4) hx hb dL_law_142 (by decide) ?_
  refine lv_iadd hx hb dL_law_143 ?_
  refine lv_as (y := nI (i + 4)) (nI_add _ _) ?_
  refine n_sld hx hb hX hbl hbA hS (k := i + 4) (by omega) (by omega) dL_law_144 ?_
  refine lv_aload_n hx hb dL_law_145 rfl (lv_at hl 4 rfl) ?_
  refine lv_iload hx hb dL_law_146 (lv_at hl 0 rfl) ?_
  refine lv_iconst (v := nI 5) hx hb dL_law_148 (by decide) ?_
  refine lv_iadd hx hb dL_law_149 ?_
  refine lv_as (y := nI (i + 5)) (nI_add _ _) ?_
  refine n_sld hx hb hX hbl hbA hS (k := i + 5) (by omega) (by omega) dL_law_150 ?_
  refine lv_aload_n hx hb dL_law_151 rfl (lv_at hl 4 rfl) ?_
  refine lv_iload hx hb dL_law_152 (lv_at hl 0 rfl) ?_
  refine lv_bipush (v := nI 6) hx hb dL_law_154 (by decide) ?_
  refine lv_iadd hx hb dL_law_156 ?_
  refine lv_as (y := nI (i + 6)) (nI_add _ _) ?_
  refine n_sld hx hb hX hbl hbA hS (k := i + 6) (by omega) (by omega) dL_law_157 ?_
  refine W.joinI (pc2 := 166) (st2 := [.int (xs (i + 5)), .int (xs (i + 4)), .int (xs (i + 3)), .int (xs (i + 2)), .int (xs (i + 1)), .ref (q 0)]) (J := fun v => v = if xs (i + 6) = 0 then nI 0 else nI 1) (fun jj => ?_) (fun v hv => ?_)
  · refine lv_if_eq (tgt := 165) hx hb dL_law_158 (by decide) (fun c8 => ?_) (fun c8 => ?_)
    · refine lv_iconst (v := nI 0) hx hb dL_law_165 (by decide) ?_
      exact jj _ (if_pos c8).symm
    · refine lv_iconst (v := nI 1) hx hb dL_law_161 (by decide) ?_
      refine lv_goto (tgt := 166) hx hb dL_law_162 (by decide) ?_
      exact jj _ (if_neg c8).symm
  subst hv
  refine lv_aload_n hx hb dL_law_166 rfl (lv_at hl 1 rfl) ?_
  refine k_callTW (wr := (wm cI2 cZ q2 th sh sp ld nm2 nk tx2 mn ds ct2 co st at0 ha tk)) (As := [.ref (q 0), .int (xs (i + 1)), .int (xs (i + 2)), .int (xs (i + 3)), .int (xs (i + 4)), .int (xs (i + 5)), .int (if xs (i + 6) = 0 then nI 0 else nI 1), .ref o]) (rest := []) ⟨hx, hb, hml, hown, hts⟩ (c_L_stroke l hst D cI q sh sp ld nm tx ds ct co kg ks (xs (i + 1)) (xs (i + 2)) (xs (i + 3)) (xs (i + 4)) (xs (i + 5)) (if xs (i + 6) = 0 then nI 0 else nI 1) hR.1 o cJ f (k_D_tt (hD.sub [0, 1, 2, 3, 4, 5, 6, 7, 8, 20] (by decide) rfl))) (vx_cwSW 8 hts gL_law_L_stroke rfl rfl rfl (by decide +kernel) ⟨Nat.le_of_ble_eq_true rfl, Nat.le_of_ble_eq_true rfl⟩) (k_en_bl k_B_bl) (fun U hU hW => ⟨k_B_of (hP.sub [0, 1, 2, 3, 4, 5, 6, 7, 8, 20] rfl) (hK.sub [0, 3] rfl) U hU hW, k_ex_mv hex hS (fun a h => Nat.not_le.mpr h) U hU hW, k_nc_of hnc U hW⟩) rfl hl.1 rfl (Nat.le_of_ble_eq_true rfl) dL_law_167 ⟨hcc, hss⟩ hP hD hS [9, 10, 11, 12, 13, 14, 15, 16, 17, 18, 19] [0, 1, 2, 3, 4, 5, 6, 7, 8, 20] rfl rfl (fun u => by cases u <;> rfl) (fun u H locs hu hP hD hS => ?_)
  have hcd : cd2 (inB (xs (i + 1)) 8) (lnB (xs (i + 2)) (xs (i + 3)) (xs (i + 4)) (xs (i + 5))) = cd2 (inB (xs (i + 1)) 8) (lnB (xs (i + 2)) (xs (i + 3)) (xs (i + 4)) (xs (i + 5))) := rfl
  rcases lw_or0 hu with ⟨rfl, hc⟩ | ⟨u1, rfl, hc, hpx⟩
  · skip
    have hP : va_P D vwCl (wx cI q sh sp ld nm tx ds ct co kg ks ++ wm cI2 cZ q2 th sh sp ld nm2 nk tx2 mn ds ct2 co st at0 ha tk ++ [wo o cJ f]) H := hP.sub [11, 12, 13, 14, 15, 16, 17, 18, 19, 0, 1, 2, 3, 4, 5, 6, 7, 8, 9, 10, 20] rfl
    have hD : va_D _ (wx cI q sh sp ld nm tx ds ct co kg ks ++ wm cI2 cZ q2 th sh sp ld nm2 nk tx2 mn ds ct2 co st at0 ha tk ++ [wo o cJ f]) := hD.sub [11, 12, 13, 14, 15, 16, 17, 18, 19, 0, 1, 2, 3, 4, 5, 6, 7, 8, 9, 10, 20] (by decide) rfl
    refine lv_istore (lv' := [(5, .int (nI (cd2 (inB (xs (i + 1)) 8) (lnB (xs (i + 2)) (xs (i + 3)) (xs (i + 4)) (xs (i + 5)))))), (4, .int (nI i)), (3, .ref o), (2, .ref (q2 0)), (1, .ref (q 0)), (0, .ref b)]) hx hb dL_law_170 hl (by decide) rfl (fun ls hl => ?_)
    refine lv_aload_n hx hb dL_law_172 rfl (lv_at hl 3 rfl) ?_
    refine lv_aload_n hx hb dL_law_173 rfl (lv_at hl 5 rfl) ?_
    refine lv_iload hx hb dL_law_174 (lv_at hl 1 rfl) ?_
    refine lv_iconst (v := nI 1) hx hb dL_law_176 (by decide) ?_
    refine lv_iadd hx hb dL_law_177 ?_
    refine lv_as (y := nI (i + 1)) (nI_add _ _) ?_
    refine n_sld hx hb hX hbl hbA hS (k := i + 1) (by omega) (by omega) dL_law_178 ?_
    refine lv_aload_n hx hb dL_law_179 rfl (lv_at hl 5 rfl) ?_
    refine lv_iload hx hb dL_law_180 (lv_at hl 1 rfl) ?_
    refine lv_iconst (v := nI 2) hx hb dL_law_182 (by decide) ?_
    refine lv_iadd hx hb dL_law_183 ?_
    refine lv_as (y := nI (i + 2)) (nI_add _ _) ?_
    refine n_sld hx hb hX hbl hbA hS (k := i + 2) (by omega) (by omega) dL_law_184 ?_
    refine lv_aload_n hx hb dL_law_185 rfl (lv_at hl 5 rfl) ?_
    refine lv_iload hx hb dL_law_186 (lv_at hl 1 rfl) ?_
    refine lv_iconst (v := nI 3) hx hb dL_law_188 (by decide) ?_
    refine lv_iadd hx hb dL_law_189 ?_
    refine lv_as (y := nI (i + 3)) (nI_add _ _) ?_
    refine n_sld hx hb hX hbl hbA hS (k := i + 3) (by omega) (by omega) dL_law_190 ?_
    refine lv_aload_n hx hb dL_law_191 rfl (lv_at hl 5 rfl) ?_
    refine lv_iload hx hb dL_law_192 (lv_at hl 1 rfl) ?_
    refine lv_iconst (v := nI 4) hx hb dL_law_194 (by decide) ?_
    refine lv_iadd hx hb dL_law_195 ?_
    refine lv_as (y := nI (i + 4)) (nI_add _ _) ?_
    refine n_sld hx hb hX hbl hbA hS (k := i + 4) (by omega) (by omega) dL_law_196 ?_
    refine lv_aload_n hx hb dL_law_197 rfl (lv_at hl 5 rfl) ?_
    refine lv_iload hx hb dL_law_198 (lv_at hl 1 rfl) ?_
    refine lv_iconst (v := nI 5) hx hb dL_law_200 (by decide) ?_
    refine lv_iadd hx hb dL_law_201 ?_
    refine lv_as (y := nI (i + 5)) (nI_add _ _) ?_
    refine n_sld hx hb hX hbl hbA hS (k := i + 5) (by omega) (by omega) dL_law_202 ?_
    refine lv_aload_n hx hb dL_law_203 rfl (lv_at hl 5 rfl) ?_
    refine lv_iload hx hb dL_law_204 (lv_at hl 1 rfl) ?_
    refine lv_bipush (v := nI 6) hx hb dL_law_206 (by decide) ?_
    refine lv_iadd hx hb dL_law_208 ?_
    refine lv_as (y := nI (i + 6)) (nI_add _ _) ?_
    refine n_sld hx hb hX hbl hbA hS (k := i + 6) (by omega) (by omega) dL_law_209 ?_
    refine W.joinI (pc2 := 218) (st2 := [.int (xs (i + 5)), .int (xs (i + 4)), .int (xs (i + 3)), .int (xs (i + 2)), .int (xs (i + 1)), .ref (q2 0)]) (J := fun v => v = if xs (i + 6) = 0 then nI 0 else nI 1) (fun jj => ?_) (fun v hv => ?_)
    · refine lv_if_eq (tgt := 217) hx hb dL_law_210 (by decide) (fun c8 => ?_) (fun c8 => ?_)
      · refine lv_iconst (v := nI 0) hx hb dL_law_217 (by decide) ?_
        exact jj _ (if_pos c8).symm
      · refine lv_iconst (v := nI 1) hx hb dL_law_213 (by decide) ?_
        refine lv_goto (tgt := 218) hx hb dL_law_214 (by decide) ?_
        exact jj _ (if_neg c8).symm
    subst hv
    refine k_callVW (wr := (wx cI q sh sp ld nm tx ds ct co kg ks ++ [wo o cJ f])) (As := [.int (xs (i + 1)), .int (xs (i + 2)), .int (xs (i + 3)), .int (xs (i + 4)), .int (xs (i + 5)), .int (if xs (i + 6) = 0 then nI 0 else nI 1)]) (rest := []) ⟨hx, hb, hml, hown, hts⟩ (c_X1_stroke l D cI2 cZ q2 th sh sp ld nm2 nk tx2 mn ds ct2 co st at0 ha tk (xs (i + 1)) (xs (i + 2)) (xs (i + 3)) (xs (i + 4)) (xs (i + 5)) (if xs (i + 6) = 0 then nI 0 else nI 1) (k_D_tt (hD.sub [9, 10, 11, 12, 13, 14, 15, 16, 17, 18, 19] (by decide) rfl))) (cwV 6 hts gL_law_X1_stroke rfl rfl rfl (by decide +kernel) ⟨Nat.le_of_ble_eq_true rfl, Nat.le_of_ble_eq_true rfl⟩) k_B_bl (k_B_of (hP.sub [9, 10, 11, 12, 13, 14, 15, 16, 17, 18, 19] rfl) (hK.sub [1, 2] rfl)) (va_recv hK hP (ci := 1) (q0 := 9) rfl rfl) rfl hl.1 rfl (Nat.le_of_ble_eq_true rfl) dL_law_218 ⟨hcc, hss⟩ hP hD hS [0, 1, 2, 3, 4, 5, 6, 7, 8, 20] [9, 10, 11, 12, 13, 14, 15, 16, 17, 18, 19] rfl rfl (fun _ => rfl) (fun v H locs hv hP hD hS _ _ => ?_)
    obtain ⟨v1, vo⟩ := v
    obtain ⟨hv1, hv2⟩ := hv
    rcases lw_or0 hv2 with ⟨hvo, hc2⟩ | ⟨v2, hvo, hc2, hv3⟩
    · skip
      have hv1 : v1 = nI (cd2 (inB (xs (i + 1)) 8) (lnB (xs (i + 2)) (xs (i + 3)) (xs (i + 4)) (xs (i + 5)))) := hv1
      have hvo : vo = _ := hvo
      subst hvo
      subst hv1
      have hP : va_P D vwCl (wx cI q sh sp ld nm tx ds ct co kg ks ++ (wm cI2 cZ q2 (nI (cd2 (inB (xs (i + 1)) 8) (lnB (xs (i + 2)) (xs (i + 3)) (xs (i + 4)) (xs (i + 5))))) sh sp ld nm2 nk tx2 mn ds ct2 co st at0 ha tk) ++ [wo o cJ f]) H := hP.sub [0, 1, 2, 3, 4, 5, 6, 7, 8, 10, 11, 12, 13, 14, 15, 16, 17, 18, 19, 20, 9] rfl
      have hD : va_D _ (wx cI q sh sp ld nm tx ds ct co kg ks ++ (wm cI2 cZ q2 (nI (cd2 (inB (xs (i + 1)) 8) (lnB (xs (i + 2)) (xs (i + 3)) (xs (i + 4)) (xs (i + 5))))) sh sp ld nm2 nk tx2 mn ds ct2 co st at0 ha tk) ++ [wo o cJ f]) := hD.sub [0, 1, 2, 3, 4, 5, 6, 7, 8, 10, 11, 12, 13, 14, 15, 16, 17, 18, 19, 20, 9] (by decide) rfl
      refine lv_istore (lv' := [(6, .int (nI 0)), (5, .int (nI (cd2 (inB (xs (i + 1)) 8) (lnB (xs (i + 2)) (xs (i + 3)) (xs (i + 4)) (xs (i + 5)))))), (4, .int (nI i)), (3, .ref o), (2, .ref (q2 0)), (1, .ref (q 0)), (0, .ref b)]) hx hb dL_law_221 hl (by decide) rfl (fun ls hl => ?_)
      refine lv_aload_n hx hb dL_law_223 rfl (lv_at hl 4 rfl) ?_
      refine k_callVi (As := []) (rest := []) ⟨hx, hb, hml, hown, hts⟩ (c_X1_thrown l D cI2 cZ q2 (nI (cd2 (inB (xs (i + 1)) 8) (lnB (xs (i + 2)) (xs (i + 3)) (xs (i + 4)) (xs (i + 5))))) sh sp ld nm2 nk tx2 mn ds ct2 co st at0 ha tk) (cwV 0 hts gL_law_X1_thrown rfl rfl rfl (by decide +kernel) ⟨Nat.le_of_ble_eq_true rfl, Nat.le_of_ble_eq_true rfl⟩) k_B_bl (k_B_of (hP.sub [9, 10, 11, 12, 13, 14, 15, 16, 17, 18, 19] rfl) (hK.sub [1, 2] rfl)) (va_recv hK hP (ci := 1) (q0 := 9) rfl rfl) rfl hl.1 rfl (Nat.le_of_ble_eq_true rfl) dL_law_224 ⟨Nat.le_trans (Nat.le_refl _) hcc, Nat.le_trans (Nat.le_refl _) hss⟩ ?_
      refine lv_as (y := nI (cd2 (inB (xs (i + 1)) 8) (lnB (xs (i + 2)) (xs (i + 3)) (xs (i + 4)) (xs (i + 5))))) (congrArg nI hcd) ?_
      refine lv_iload hx hb dL_law_227 (lv_at hl 1 rfl) ?_
      refine lv_icmp_eq (tgt := 234) hx hb dL_law_229 (by decide) (fun _ => ?_) (fun h9 => absurd rfl h9)
      refine lv_iload hx hb dL_law_234 (lv_at hl 1 rfl) ?_
      refine n_if_ne (tgt := 251) hx hb dL_law_236 (by decide) (cd2_le _ _) (fun _ => ?_) (fun h9 => absurd h9 hc)
      refine lv_goto (tgt := 1298) hx hb dL_law_251 (by decide) ?_
      refine hk H locs ls ?_ (lv_sub hl [2, 3, 4, 5, 6] rfl)
      exact lwI_mk (hR) hP hD hS
    · exact absurd (hcd.symm.trans hc2) hc
  · skip
    obtain ⟨a1, a2, a3, a4, a5⟩ := u1
    obtain ⟨hp1, hp2, hp3, hp4, hp5, hp6, hp7, hp8, hp9, hp10, hp11⟩ := hpx
    have hp1 : a1 < 8 := hp1
    have hp2 : (xs (i + 1)) = nI a1 := hp2
    have hp3 : a2 < 5 := hp3
    have hp4 : a3 < 5 := hp4
    have hp5 : a4 < 5 := hp5
    have hp6 : a5 < 5 := hp6
    have hp7 : (xs (i + 2)) = nI a2 := hp7
    have hp8 : (xs (i + 3)) = nI a3 := hp8
    have hp9 : (xs (i + 4)) = nI a4 := hp9
    have hp10 : (xs (i + 5)) = nI a5 := hp10
    have hp11 : lnK a2 a3 a4 a5 = true := hp11
    have hP : va_P D vwCl (wx cI q (upd sh a1 (stk (if xs (i + 6) = 0 then nI 0 else nI 1) (sh a1) (lcN a2 a3 a4 a5))) sp ld nm tx ds ct co (nI 0) ks ++ wm cI2 cZ q2 th sh sp ld nm2 nk tx2 mn ds ct2 co st at0 ha tk ++ [wo o cJ (vp_updL f 0 ((df (sh a1) (stk (if xs (i + 6) = 0 then nI 0 else nI 1) (sh a1) (lcN a2 a3 a4 a5))).toInt64))]) H := hP.sub [11, 12, 13, 14, 15, 16, 17, 18, 19, 0, 1, 2, 3, 4, 5, 6, 7, 8, 9, 10, 20] rfl
    have hD : va_D _ (wx cI q (upd sh a1 (stk (if xs (i + 6) = 0 then nI 0 else nI 1) (sh a1) (lcN a2 a3 a4 a5))) sp ld nm tx ds ct co (nI 0) ks ++ wm cI2 cZ q2 th sh sp ld nm2 nk tx2 mn ds ct2 co st at0 ha tk ++ [wo o cJ (vp_updL f 0 ((df (sh a1) (stk (if xs (i + 6) = 0 then nI 0 else nI 1) (sh a1) (lcN a2 a3 a4 a5))).toInt64))]) := hD.sub [11, 12, 13, 14, 15, 16, 17, 18, 19, 0, 1, 2, 3, 4, 5, 6, 7, 8, 9, 10, 20] (by decide) rfl
    refine lv_istore (lv' := [(5, .int (nI (0))), (4, .int (nI i)), (3, .ref o), (2, .ref (q2 0)), (1, .ref (q 0)), (0, .ref b)]) hx hb dL_law_170 hl (by decide) rfl (fun ls hl => ?_)
    refine lv_aload_n hx hb dL_law_172 rfl (lv_at hl 3 rfl) ?_
    refine lv_aload_n hx hb dL_law_173 rfl (lv_at hl 5 rfl) ?_
    refine lv_iload hx hb dL_law_174 (lv_at hl 1 rfl) ?_
    refine lv_iconst (v := nI 1) hx hb dL_law_176 (by decide) ?_
    refine lv_iadd hx hb dL_law_177 ?_
    refine lv_as (y := nI (i + 1)) (nI_add _ _) ?_
    refine n_sld hx hb hX hbl hbA hS (k := i + 1) (by omega) (by omega) dL_law_178 ?_
    refine lv_aload_n hx hb dL_law_179 rfl (lv_at hl 5 rfl) ?_
    refine lv_iload hx hb dL_law_180 (lv_at hl 1 rfl) ?_
    refine lv_iconst (v := nI 2) hx hb dL_law_182 (by decide) ?_
    refine lv_iadd hx hb dL_law_183 ?_
    refine lv_as (y := nI (i + 2)) (nI_add _ _) ?_
    refine n_sld hx hb hX hbl hbA hS (k := i + 2) (by omega) (by omega) dL_law_184 ?_
    refine lv_aload_n hx hb dL_law_185 rfl (lv_at hl 5 rfl) ?_
    refine lv_iload hx hb dL_law_186 (lv_at hl 1 rfl) ?_
    refine lv_iconst (v := nI 3) hx hb dL_law_188 (by decide) ?_
    refine lv_iadd hx hb dL_law_189 ?_
    refine lv_as (y := nI (i + 3)) (nI_add _ _) ?_
    refine n_sld hx hb hX hbl hbA hS (k := i + 3) (by omega) (by omega) dL_law_190 ?_
    refine lv_aload_n hx hb dL_law_191 rfl (lv_at hl 5 rfl) ?_
    refine lv_iload hx hb dL_law_192 (lv_at hl 1 rfl) ?_
    refine lv_iconst (v := nI 4) hx hb dL_law_194 (by decide) ?_
    refine lv_iadd hx hb dL_law_195 ?_
    refine lv_as (y := nI (i + 4)) (nI_add _ _) ?_
    refine n_sld hx hb hX hbl hbA hS (k := i + 4) (by omega) (by omega) dL_law_196 ?_
    refine lv_aload_n hx hb dL_law_197 rfl (lv_at hl 5 rfl) ?_
    refine lv_iload hx hb dL_law_198 (lv_at hl 1 rfl) ?_
    refine lv_iconst (v := nI 5) hx hb dL_law_200 (by decide) ?_
    refine lv_iadd hx hb dL_law_201 ?_
    refine lv_as (y := nI (i + 5)) (nI_add _ _) ?_
    refine n_sld hx hb hX hbl hbA hS (k := i + 5) (by omega) (by omega) dL_law_202 ?_
    refine lv_aload_n hx hb dL_law_203 rfl (lv_at hl 5 rfl) ?_
    refine lv_iload hx hb dL_law_204 (lv_at hl 1 rfl) ?_
    refine lv_bipush (v := nI 6) hx hb dL_law_206 (by decide) ?_
    refine lv_iadd hx hb dL_law_208 ?_
    refine lv_as (y := nI (i + 6)) (nI_add _ _) ?_
    refine n_sld hx hb hX hbl hbA hS (k := i + 6) (by omega) (by omega) dL_law_209 ?_
    refine W.joinI (pc2 := 218) (st2 := [.int (xs (i + 5)), .int (xs (i + 4)), .int (xs (i + 3)), .int (xs (i + 2)), .int (xs (i + 1)), .ref (q2 0)]) (J := fun v => v = if xs (i + 6) = 0 then nI 0 else nI 1) (fun jj => ?_) (fun v hv => ?_)
    · refine lv_if_eq (tgt := 217) hx hb dL_law_210 (by decide) (fun c8 => ?_) (fun c8 => ?_)
      · refine lv_iconst (v := nI 0) hx hb dL_law_217 (by decide) ?_
        exact jj _ (if_pos c8).symm
      · refine lv_iconst (v := nI 1) hx hb dL_law_213 (by decide) ?_
        refine lv_goto (tgt := 218) hx hb dL_law_214 (by decide) ?_
        exact jj _ (if_neg c8).symm
    subst hv
    refine k_callVW (wr := (wx cI q (upd sh a1 (stk (if xs (i + 6) = 0 then nI 0 else nI 1) (sh a1) (lcN a2 a3 a4 a5))) sp ld nm tx ds ct co (nI 0) ks ++ [wo o cJ (vp_updL f 0 ((df (sh a1) (stk (if xs (i + 6) = 0 then nI 0 else nI 1) (sh a1) (lcN a2 a3 a4 a5))).toInt64))])) (As := [.int (xs (i + 1)), .int (xs (i + 2)), .int (xs (i + 3)), .int (xs (i + 4)), .int (xs (i + 5)), .int (if xs (i + 6) = 0 then nI 0 else nI 1)]) (rest := []) ⟨hx, hb, hml, hown, hts⟩ (c_X1_stroke l D cI2 cZ q2 th sh sp ld nm2 nk tx2 mn ds ct2 co st at0 ha tk (xs (i + 1)) (xs (i + 2)) (xs (i + 3)) (xs (i + 4)) (xs (i + 5)) (if xs (i + 6) = 0 then nI 0 else nI 1) (k_D_tt (hD.sub [9, 10, 11, 12, 13, 14, 15, 16, 17, 18, 19] (by decide) rfl))) (cwV 6 hts gL_law_X1_stroke rfl rfl rfl (by decide +kernel) ⟨Nat.le_of_ble_eq_true rfl, Nat.le_of_ble_eq_true rfl⟩) k_B_bl (k_B_of (hP.sub [9, 10, 11, 12, 13, 14, 15, 16, 17, 18, 19] rfl) (hK.sub [1, 2] rfl)) (va_recv hK hP (ci := 1) (q0 := 9) rfl rfl) rfl hl.1 rfl (Nat.le_of_ble_eq_true rfl) dL_law_218 ⟨hcc, hss⟩ hP hD hS [0, 1, 2, 3, 4, 5, 6, 7, 8, 20] [9, 10, 11, 12, 13, 14, 15, 16, 17, 18, 19] rfl rfl (fun _ => rfl) (fun v H locs hv hP hD hS _ _ => ?_)
    obtain ⟨v1, vo⟩ := v
    obtain ⟨hv1, hv2⟩ := hv
    rcases lw_or0 hv2 with ⟨hvo, hc2⟩ | ⟨v2, hvo, hc2, hv3⟩
    · exact absurd (hcd.trans hc) hc2
    · skip
      have hv1 : v1 = nI (cd2 (inB (xs (i + 1)) 8) (lnB (xs (i + 2)) (xs (i + 3)) (xs (i + 4)) (xs (i + 5)))) := hv1
      have hvo : vo = _ := hvo
      subst hvo
      subst hv1
      obtain ⟨b1, b2, b3, b4, b5⟩ := v2
      obtain ⟨hq1, hq2, hq3, hq4, hq5, hq6, hq7, hq8, hq9, hq10, hq11⟩ := hv3
      have hq1 : b1 < 8 := hq1
      have hq2 : (xs (i + 1)) = nI b1 := hq2
      have hq3 : b2 < 5 := hq3
      have hq4 : b3 < 5 := hq4
      have hq5 : b4 < 5 := hq5
      have hq6 : b5 < 5 := hq6
      have hq7 : (xs (i + 2)) = nI b2 := hq7
      have hq8 : (xs (i + 3)) = nI b3 := hq8
      have hq9 : (xs (i + 4)) = nI b4 := hq9
      have hq10 : (xs (i + 5)) = nI b5 := hq10
      have hq11 : lnK b2 b3 b4 b5 = true := hq11
      have hab : a1 = b1 := nI_inj (by omega) (by omega) (hp2.symm.trans hq2)
      subst hab
      have hab : a2 = b2 := nI_inj (by omega) (by omega) (hp7.symm.trans hq7)
      subst hab
      have hab : a3 = b3 := nI_inj (by omega) (by omega) (hp8.symm.trans hq8)
      subst hab
      have hab : a4 = b4 := nI_inj (by omega) (by omega) (hp9.symm.trans hq9)
      subst hab
      have hab : a5 = b5 := nI_inj (by omega) (by omega) (hp10.symm.trans hq10)
      subst hab
      have hP : va_P D vwCl (wx cI q (upd sh a1 (stk (if xs (i + 6) = 0 then nI 0 else nI 1) (sh a1) (lcN a2 a3 a4 a5))) sp ld nm tx ds ct co (nI 0) ks ++ (wm cI2 cZ q2 (nI (cd2 (inB (xs (i + 1)) 8) (lnB (xs (i + 2)) (xs (i + 3)) (xs (i + 4)) (xs (i + 5))))) (upd sh a1 (stk (if xs (i + 6) = 0 then nI 0 else nI 1) (sh a1) (lcN a2 a3 a4 a5))) sp ld nm2 nk tx2 mn ds ct2 co st at0 ha tk) ++ [wo o cJ (vp_updL f 0 ((df (sh a1) (stk (if xs (i + 6) = 0 then nI 0 else nI 1) (sh a1) (lcN a2 a3 a4 a5))).toInt64))]) H := hP.sub [0, 1, 2, 3, 4, 5, 6, 7, 8, 10, 11, 12, 13, 14, 15, 16, 17, 18, 19, 20, 9] rfl
      have hD : va_D _ (wx cI q (upd sh a1 (stk (if xs (i + 6) = 0 then nI 0 else nI 1) (sh a1) (lcN a2 a3 a4 a5))) sp ld nm tx ds ct co (nI 0) ks ++ (wm cI2 cZ q2 (nI (cd2 (inB (xs (i + 1)) 8) (lnB (xs (i + 2)) (xs (i + 3)) (xs (i + 4)) (xs (i + 5))))) (upd sh a1 (stk (if xs (i + 6) = 0 then nI 0 else nI 1) (sh a1) (lcN a2 a3 a4 a5))) sp ld nm2 nk tx2 mn ds ct2 co st at0 ha tk) ++ [wo o cJ (vp_updL f 0 ((df (sh a1) (stk (if xs (i + 6) = 0 then nI 0 else nI 1) (sh a1) (lcN a2 a3 a4 a5))).toInt64))]) := hD.sub [0, 1, 2, 3, 4, 5, 6, 7, 8, 10, 11, 12, 13, 14, 15, 16, 17, 18, 19, 20, 9] (by decide) rfl
      refine lv_istore (lv' := [(6, .int (df (sh a1) (stk (if xs (i + 6) = 0 then nI 0 else nI 1) (sh a1) (lcN a2 a3 a4 a5)))), (5, .int (nI (0))), (4, .int (nI i)), (3, .ref o), (2, .ref (q2 0)), (1, .ref (q 0)), (0, .ref b)]) hx hb dL_law_221 hl (by decide) rfl (fun ls hl => ?_)
      refine lv_aload_n hx hb dL_law_223 rfl (lv_at hl 4 rfl) ?_
      refine k_callVi (As := []) (rest := []) ⟨hx, hb, hml, hown, hts⟩ (c_X1_thrown l D cI2 cZ q2 (nI (cd2 (inB (xs (i + 1)) 8) (lnB (xs (i + 2)) (xs (i + 3)) (xs (i + 4)) (xs (i + 5))))) (upd sh a1 (stk (if xs (i + 6) = 0 then nI 0 else nI 1) (sh a1) (lcN a2 a3 a4 a5))) sp ld nm2 nk tx2 mn ds ct2 co st at0 ha tk) (cwV 0 hts gL_law_X1_thrown rfl rfl rfl (by decide +kernel) ⟨Nat.le_of_ble_eq_true rfl, Nat.le_of_ble_eq_true rfl⟩) k_B_bl (k_B_of (hP.sub [9, 10, 11, 12, 13, 14, 15, 16, 17, 18, 19] rfl) (hK.sub [1, 2] rfl)) (va_recv hK hP (ci := 1) (q0 := 9) rfl rfl) rfl hl.1 rfl (Nat.le_of_ble_eq_true rfl) dL_law_224 ⟨Nat.le_trans (Nat.le_refl _) hcc, Nat.le_trans (Nat.le_refl _) hss⟩ ?_
      refine lv_as (y := nI (0)) (congrArg nI hc2) ?_
      refine lv_iload hx hb dL_law_227 (lv_at hl 1 rfl) ?_
      refine lv_icmp_eq (tgt := 234) hx hb dL_law_229 (by decide) (fun _ => ?_) (fun h9 => absurd rfl h9)
      refine lv_iload hx hb dL_law_234 (lv_at hl 1 rfl) ?_
      refine n_if_ne (tgt := 251) hx hb dL_law_236 (by decide) (by decide) (fun h9 => absurd h9 (by decide)) (fun _ => ?_)
      refine lv_aload_n hx hb dL_law_239 rfl (lv_at hl 3 rfl) ?_
      refine lv_iconst (v := nI 0) hx hb dL_law_240 (by decide) ?_
      refine n_lald hx hb hK hP 20 3 rfl rfl dL_law_241 ?_
      refine lv_iload hx hb dL_law_242 (lv_at hl 0 rfl) ?_
      have hans : (df (sh a1) (stk (if xs (i + 6) = 0 then nI 0 else nI 1) (sh a1) (lcN a2 a3 a4 a5))) = df (sh a1) (stk (if xs (i + 6) = 0 then nI 0 else nI 1) (sh a1) (lcN a2 a3 a4 a5)) := rfl
      refine lv_i2l (v := (df (sh a1) (stk (if xs (i + 6) = 0 then nI 0 else nI 1) (sh a1) (lcN a2 a3 a4 a5))).toInt64) hx hb dL_law_244 rfl ?_
      refine n_lcmpEq hx hb (congrArg Int32.toInt64 hans) dL_law_245 ?_
      refine n_if_eq (tgt := 251) hx hb dL_law_246 (by decide) (by decide) (fun _ => ?_) (fun h9 => absurd h9 (by decide))
      refine lv_goto (tgt := 1298) hx hb dL_law_251 (by decide) ?_
      refine hk H locs ls ?_ (lv_sub hl [2, 3, 4, 5, 6] rfl)
      exact lwI_mk (hR.stroke (S25_stk (hR.1 _ hp1) (S25_lcN hp3 hp4 hp5 hp6 hp11))) hP hD hS
set_option maxHeartbeats 4000000 in
set_option maxRecDepth 100000 in
theorem lo_difference {p : Program} {l : Launch} {e : Env} {s : State} {m : MethodId} {below : List Frame} {meth : Method} {c : Code} {b L : Nat} {xs : Nat → Int32} {Q : State → Prop} {D : va_G} {cI cI2 cZ cJ : ClassId} {q q2 : Nat → Nat} {o : Nat} (hC : lwC p l s m meth c b L xs D cI cI2 cZ cJ) {i : Nat} (hi : i + 7 ≤ L) {cells slots : Nat} (hcc : cells + 8 ≤ room_1.cells) (hss : slots + 48 ≤ room_1.slots) {H : Heap} {locs : List Loc} (hI : lwI D cI q cI2 cZ q2 o cJ s H locs) {ls : Array Slot} (hl : lv_has ls 7 (lwL b q q2 o i)) (hk : ∀ (H : Heap) (locs : List Loc) (ls : Array Slot), lwI D cI q cI2 cZ q2 o cJ s H locs → lv_has ls 7 (lwL b q q2 o i) → W p l e room_1 s m #[Value.ref b] below meth c H locs (cells + 8) (slots + 48) Q (F0 m 1298 ls [])) : W p l e room_1 s m #[Value.ref b] below meth c H locs cells slots Q (F0 m 254 ls []) := by
  obtain ⟨C0, hst, hex, hnc, hK, hL⟩ := hC
  obtain ⟨hx, hb, hr, hml, hown, hts0, hX, hbl, hlocks, hgv⟩ := id C0
  have hts : ∀ w ∈ wsL_law, w.before #[Value.ref b] s = true := fun w h => hts0 w (wsL_law_in w h)
  have hown : s.vm.findClass RL = some m.cls := hown
  have hbA : ¬ (fun a : Nat => s.heap.size ≤ a) b := Nat.not_le.mpr hbl
  obtain ⟨sh, sp, ld, nm, tx, ds, ct, co, kg, ks, th, nm2, nk, tx2, mn, ct2, st, at0, ha, tk, f, T, K, T2, Ld, NT, NK, hR, hP, hD, hS⟩ := hI
  have hl : lv_has ls 7 [(4, .int (nI i)), (3, .ref o), (2, .ref (q2 0)), (1, .ref (q 0)), (0, .ref b)] := hl
  refine lv_aload_n hx hb dL_law_254 rfl (lv_at hl 3 rfl) ?_
  refine lv_aload_n hx hb dL_law_255 rfl (lv_at hl 4 rfl) ?_
  refine lv_iload hx hb dL_law_256 (lv_at hl 0 rfl) ?_
  refine lv_iconst (v := nI 1) hx hb dL_law_258 (by decide) ?_
  refine lv_iadd hx hb dL_law_259 ?_
  refine lv_as (y := nI (i + 1)) (nI_add _ _) ?_
  refine n_sld hx hb hX hbl hbA hS (k := i + 1) (by omega) (by omega) dL_law_260 ?_
  refine lv_aload_n hx hb dL_law_261 rfl (lv_at hl 4 rfl) ?_
  refine lv_iload hx hb dL_law_262 (lv_at hl 0 rfl) ?_
  refine lv_iconst (v := nI 2) hx hb dL_law_264 (by decide) ?_
  refine lv_iadd hx hb dL_law_265 ?_
  refine lv_as (y := nI (i + 2)) (nI_add _ _) ?_
  refine n_sld hx hb hX hbl hbA hS (k := i + 2) (by omega) (by omega) dL_law_266 ?_
  refine lv_aload_n hx hb dL_law_267 rfl (lv_at hl 1 rfl) ?_
  refine k_callTW (wr := (wm cI2 cZ q2 th sh sp ld nm2 nk tx2 mn ds ct2 co st at0 ha tk)) (As := [.ref (q 0), .int (xs (i + 1)), .int (xs (i + 2)), .ref o]) (rest := []) ⟨hx, hb, hml, hown, hts⟩ (c_L_difference l hst D cI q sh sp ld nm tx ds ct co kg ks (xs (i + 1)) (xs (i + 2)) hR.1 o cJ f (k_D_tt (hD.sub [0, 1, 2, 3, 4, 5, 6, 7, 8, 20] (by decide) rfl))) (vx_cwSW 4 hts gL_law_L_difference rfl rfl rfl (by decide +kernel) ⟨Nat.le_of_ble_eq_true rfl, Nat.le_of_ble_eq_true rfl⟩) (k_en_bl k_B_bl) (fun U hU hW => ⟨k_B_of (hP.sub [0, 1, 2, 3, 4, 5, 6, 7, 8, 20] rfl) (hK.sub [0, 3] rfl) U hU hW, k_ex_mv hex hS (fun a h => Nat.not_le.mpr h) U hU hW, k_nc_of hnc U hW⟩) rfl hl.1 rfl (Nat.le_of_ble_eq_true rfl) dL_law_268 ⟨hcc, hss⟩ hP hD hS [9, 10, 11, 12, 13, 14, 15, 16, 17, 18, 19] [0, 1, 2, 3, 4, 5, 6, 7, 8, 20] rfl rfl (fun u => by cases u <;> rfl) (fun u H locs hu hP hD hS => ?_)
  have hcd : cd1 (inB (xs (i + 1)) 8 && inB (xs (i + 2)) 8) = cd1 (inB (xs (i + 1)) 8 && inB (xs (i + 2)) 8) := rfl
  rcases lw_or0 hu with ⟨rfl, hc⟩ | ⟨u1, rfl, hc, hpx⟩
  · skip
    have hP : va_P D vwCl (wx cI q sh sp ld nm tx ds ct co kg ks ++ wm cI2 cZ q2 th sh sp ld nm2 nk tx2 mn ds ct2 co st at0 ha tk ++ [wo o cJ f]) H := hP.sub [11, 12, 13, 14, 15, 16, 17, 18, 19, 0, 1, 2, 3, 4, 5, 6, 7, 8, 9, 10, 20] rfl
    have hD : va_D _ (wx cI q sh sp ld nm tx ds ct co kg ks ++ wm cI2 cZ q2 th sh sp ld nm2 nk tx2 mn ds ct2 co st at0 ha tk ++ [wo o cJ f]) := hD.sub [11, 12, 13, 14, 15, 16, 17, 18, 19, 0, 1, 2, 3, 4, 5, 6, 7, 8, 9, 10, 20] (by decide) rfl
    refine lv_istore (lv' := [(5, .int (nI (cd1 (inB (xs (i + 1)) 8 && inB (xs (i + 2)) 8)))), (4, .int (nI i)), (3, .ref o), (2, .ref (q2 0)), (1, .ref (q 0)), (0, .ref b)]) hx hb dL_law_271 hl (by decide) rfl (fun ls hl => ?_)
    refine lv_aload_n hx hb dL_law_273 rfl (lv_at hl 3 rfl) ?_
    refine lv_aload_n hx hb dL_law_274 rfl (lv_at hl 5 rfl) ?_
    refine lv_iload hx hb dL_law_275 (lv_at hl 1 rfl) ?_
    refine lv_iconst (v := nI 1) hx hb dL_law_277 (by decide) ?_
    refine lv_iadd hx hb dL_law_278 ?_
    refine lv_as (y := nI (i + 1)) (nI_add _ _) ?_
    refine n_sld hx hb hX hbl hbA hS (k := i + 1) (by omega) (by omega) dL_law_279 ?_
    refine lv_aload_n hx hb dL_law_280 rfl (lv_at hl 5 rfl) ?_
    refine lv_iload hx hb dL_law_281 (lv_at hl 1 rfl) ?_
    refine lv_iconst (v := nI 2) hx hb dL_law_283 (by decide) ?_
    refine lv_iadd hx hb dL_law_284 ?_
    refine lv_as (y := nI (i + 2)) (nI_add _ _) ?_
    refine n_sld hx hb hX hbl hbA hS (k := i + 2) (by omega) (by omega) dL_law_285 ?_
    refine k_callVW (wr := (wx cI q sh sp ld nm tx ds ct co kg ks ++ [wo o cJ f])) (As := [.int (xs (i + 1)), .int (xs (i + 2))]) (rest := []) ⟨hx, hb, hml, hown, hts⟩ (c_X1_difference l D cI2 cZ q2 th sh sp ld nm2 nk tx2 mn ds ct2 co st at0 ha tk (xs (i + 1)) (xs (i + 2)) (k_D_tt (hD.sub [9, 10, 11, 12, 13, 14, 15, 16, 17, 18, 19] (by decide) rfl))) (cwV 2 hts gL_law_X1_difference rfl rfl rfl (by decide +kernel) ⟨Nat.le_of_ble_eq_true rfl, Nat.le_of_ble_eq_true rfl⟩) k_B_bl (k_B_of (hP.sub [9, 10, 11, 12, 13, 14, 15, 16, 17, 18, 19] rfl) (hK.sub [1, 2] rfl)) (va_recv hK hP (ci := 1) (q0 := 9) rfl rfl) rfl hl.1 rfl (Nat.le_of_ble_eq_true rfl) dL_law_286 ⟨hcc, hss⟩ hP hD hS [0, 1, 2, 3, 4, 5, 6, 7, 8, 20] [9, 10, 11, 12, 13, 14, 15, 16, 17, 18, 19] rfl rfl (fun _ => rfl) (fun v H locs hv hP hD hS _ _ => ?_)
    obtain ⟨v1, vo⟩ := v
    obtain ⟨hv1, hv2⟩ := hv
    rcases lw_or0 hv2 with ⟨hvo, hc2⟩ | ⟨v2, hvo, hc2, hv3⟩
    · skip
      have hv1 : v1 = nI (cd1 (inB (xs (i + 1)) 8 && inB (xs (i + 2)) 8)) := hv1
      have hvo : vo = _ := hvo
      subst hvo
      subst hv1
      have hP : va_P D vwCl (wx cI q sh sp ld nm tx ds ct co kg ks ++ (wm cI2 cZ q2 (nI (cd1 (inB (xs (i + 1)) 8 && inB (xs (i + 2)) 8))) sh sp ld nm2 nk tx2 mn ds ct2 co st at0 ha tk) ++ [wo o cJ f]) H := hP.sub [0, 1, 2, 3, 4, 5, 6, 7, 8, 10, 11, 12, 13, 14, 15, 16, 17, 18, 19, 20, 9] rfl
      have hD : va_D _ (wx cI q sh sp ld nm tx ds ct co kg ks ++ (wm cI2 cZ q2 (nI (cd1 (inB (xs (i + 1)) 8 && inB (xs (i + 2)) 8))) sh sp ld nm2 nk tx2 mn ds ct2 co st at0 ha tk) ++ [wo o cJ f]) := hD.sub [0, 1, 2, 3, 4, 5, 6, 7, 8, 10, 11, 12, 13, 14, 15, 16, 17, 18, 19, 20, 9] (by decide) rfl
      refine lv_istore (lv' := [(6, .int (nI 0)), (5, .int (nI (cd1 (inB (xs (i + 1)) 8 && inB (xs (i + 2)) 8)))), (4, .int (nI i)), (3, .ref o), (2, .ref (q2 0)), (1, .ref (q 0)), (0, .ref b)]) hx hb dL_law_289 hl (by decide) rfl (fun ls hl => ?_)
      refine lv_aload_n hx hb dL_law_291 rfl (lv_at hl 4 rfl) ?_
      refine k_callVi (As := []) (rest := []) ⟨hx, hb, hml, hown, hts⟩ (c_X1_thrown l D cI2 cZ q2 (nI (cd1 (inB (xs (i + 1)) 8 && inB (xs (i + 2)) 8))) sh sp ld nm2 nk tx2 mn ds ct2 co st at0 ha tk) (cwV 0 hts gL_law_X1_thrown rfl rfl rfl (by decide +kernel) ⟨Nat.le_of_ble_eq_true rfl, Nat.le_of_ble_eq_true rfl⟩) k_B_bl (k_B_of (hP.sub [9, 10, 11, 12, 13, 14, 15, 16, 17, 18, 19] rfl) (hK.sub [1, 2] rfl)) (va_recv hK hP (ci := 1) (q0 := 9) rfl rfl) rfl hl.1 rfl (Nat.le_of_ble_eq_true rfl) dL_law_292 ⟨Nat.le_trans (Nat.le_refl _) hcc, Nat.le_trans (Nat.le_refl _) hss⟩ ?_
      refine lv_as (y := nI (cd1 (inB (xs (i + 1)) 8 && inB (xs (i + 2)) 8))) (congrArg nI hcd) ?_
      refine lv_iload hx hb dL_law_295 (lv_at hl 1 rfl) ?_
      refine lv_icmp_eq (tgt := 302) hx hb dL_law_297 (by decide) (fun _ => ?_) (fun h9 => absurd rfl h9)
      refine lv_iload hx hb dL_law_302 (lv_at hl 1 rfl) ?_
      refine n_if_ne (tgt := 319) hx hb dL_law_304 (by decide) (cd1_le _) (fun _ => ?_) (fun h9 => absurd h9 hc)
      refine lv_goto (tgt := 1298) hx hb dL_law_319 (by decide) ?_
      refine hk H locs ls ?_ (lv_sub hl [2, 3, 4, 5, 6] rfl)
      exact lwI_mk (hR) hP hD hS
    · exact absurd (hcd.symm.trans hc2) hc
  · skip
    obtain ⟨a1, a2⟩ := u1
    obtain ⟨hp1, hp2, hp3, hp4⟩ := hpx
    have hp1 : a1 < 8 := hp1
    have hp2 : (xs (i + 1)) = nI a1 := hp2
    have hp3 : a2 < 8 := hp3
    have hp4 : (xs (i + 2)) = nI a2 := hp4
    have hP : va_P D vwCl (wx cI q sh sp ld nm tx ds ct co kg ks ++ wm cI2 cZ q2 th sh sp ld nm2 nk tx2 mn ds ct2 co st at0 ha tk ++ [wo o cJ (vp_updL f 0 ((df (sh a1) (sh a2)).toInt64))]) H := hP.sub [11, 12, 13, 14, 15, 16, 17, 18, 19, 0, 1, 2, 3, 4, 5, 6, 7, 8, 9, 10, 20] rfl
    have hD : va_D _ (wx cI q sh sp ld nm tx ds ct co kg ks ++ wm cI2 cZ q2 th sh sp ld nm2 nk tx2 mn ds ct2 co st at0 ha tk ++ [wo o cJ (vp_updL f 0 ((df (sh a1) (sh a2)).toInt64))]) := hD.sub [11, 12, 13, 14, 15, 16, 17, 18, 19, 0, 1, 2, 3, 4, 5, 6, 7, 8, 9, 10, 20] (by decide) rfl
    refine lv_istore (lv' := [(5, .int (nI (0))), (4, .int (nI i)), (3, .ref o), (2, .ref (q2 0)), (1, .ref (q 0)), (0, .ref b)]) hx hb dL_law_271 hl (by decide) rfl (fun ls hl => ?_)
    refine lv_aload_n hx hb dL_law_273 rfl (lv_at hl 3 rfl) ?_
    refine lv_aload_n hx hb dL_law_274 rfl (lv_at hl 5 rfl) ?_
    refine lv_iload hx hb dL_law_275 (lv_at hl 1 rfl) ?_
    refine lv_iconst (v := nI 1) hx hb dL_law_277 (by decide) ?_
    refine lv_iadd hx hb dL_law_278 ?_
    refine lv_as (y := nI (i + 1)) (nI_add _ _) ?_
    refine n_sld hx hb hX hbl hbA hS (k := i + 1) (by omega) (by omega) dL_law_279 ?_
    refine lv_aload_n hx hb dL_law_280 rfl (lv_at hl 5 rfl) ?_
    refine lv_iload hx hb dL_law_281 (lv_at hl 1 rfl) ?_
    refine lv_iconst (v := nI 2) hx hb dL_law_283 (by decide) ?_
    refine lv_iadd hx hb dL_law_284 ?_
    refine lv_as (y := nI (i + 2)) (nI_add _ _) ?_
    refine n_sld hx hb hX hbl hbA hS (k := i + 2) (by omega) (by omega) dL_law_285 ?_
    refine k_callVW (wr := (wx cI q sh sp ld nm tx ds ct co kg ks ++ [wo o cJ (vp_updL f 0 ((df (sh a1) (sh a2)).toInt64))])) (As := [.int (xs (i + 1)), .int (xs (i + 2))]) (rest := []) ⟨hx, hb, hml, hown, hts⟩ (c_X1_difference l D cI2 cZ q2 th sh sp ld nm2 nk tx2 mn ds ct2 co st at0 ha tk (xs (i + 1)) (xs (i + 2)) (k_D_tt (hD.sub [9, 10, 11, 12, 13, 14, 15, 16, 17, 18, 19] (by decide) rfl))) (cwV 2 hts gL_law_X1_difference rfl rfl rfl (by decide +kernel) ⟨Nat.le_of_ble_eq_true rfl, Nat.le_of_ble_eq_true rfl⟩) k_B_bl (k_B_of (hP.sub [9, 10, 11, 12, 13, 14, 15, 16, 17, 18, 19] rfl) (hK.sub [1, 2] rfl)) (va_recv hK hP (ci := 1) (q0 := 9) rfl rfl) rfl hl.1 rfl (Nat.le_of_ble_eq_true rfl) dL_law_286 ⟨hcc, hss⟩ hP hD hS [0, 1, 2, 3, 4, 5, 6, 7, 8, 20] [9, 10, 11, 12, 13, 14, 15, 16, 17, 18, 19] rfl rfl (fun _ => rfl) (fun v H locs hv hP hD hS _ _ => ?_)
    obtain ⟨v1, vo⟩ := v
    obtain ⟨hv1, hv2⟩ := hv
    rcases lw_or0 hv2 with ⟨hvo, hc2⟩ | ⟨v2, hvo, hc2, hv3⟩
    · exact absurd (hcd.trans hc) hc2
    · skip
      have hv1 : v1 = nI (cd1 (inB (xs (i + 1)) 8 && inB (xs (i + 2)) 8)) := hv1
      have hvo : vo = _ := hvo
      subst hvo
      subst hv1
      obtain ⟨b1, b2⟩ := v2
      obtain ⟨hq1, hq2, hq3, hq4⟩ := hv3
      have hq1 : b1 < 8 := hq1
      have hq2 : (xs (i + 1)) = nI b1 := hq2
      have hq3 : b2 < 8 := hq3
      have hq4 : (xs (i + 2)) = nI b2 := hq4
      have hab : a1 = b1 := nI_inj (by omega) (by omega) (hp2.symm.trans hq2)
      subst hab
      have hab : a2 = b2 := nI_inj (by omega) (by omega) (hp4.symm.trans hq4)
      subst hab
      have hP : va_P D vwCl (wx cI q sh sp ld nm tx ds ct co kg ks ++ (wm cI2 cZ q2 (nI (cd1 (inB (xs (i + 1)) 8 && inB (xs (i + 2)) 8))) sh sp ld nm2 nk tx2 mn ds ct2 co st at0 ha tk) ++ [wo o cJ (vp_updL f 0 ((df (sh a1) (sh a2)).toInt64))]) H := hP.sub [0, 1, 2, 3, 4, 5, 6, 7, 8, 10, 11, 12, 13, 14, 15, 16, 17, 18, 19, 20, 9] rfl
      have hD : va_D _ (wx cI q sh sp ld nm tx ds ct co kg ks ++ (wm cI2 cZ q2 (nI (cd1 (inB (xs (i + 1)) 8 && inB (xs (i + 2)) 8))) sh sp ld nm2 nk tx2 mn ds ct2 co st at0 ha tk) ++ [wo o cJ (vp_updL f 0 ((df (sh a1) (sh a2)).toInt64))]) := hD.sub [0, 1, 2, 3, 4, 5, 6, 7, 8, 10, 11, 12, 13, 14, 15, 16, 17, 18, 19, 20, 9] (by decide) rfl
      refine lv_istore (lv' := [(6, .int (df (sh a1) (sh a2))), (5, .int (nI (0))), (4, .int (nI i)), (3, .ref o), (2, .ref (q2 0)), (1, .ref (q 0)), (0, .ref b)]) hx hb dL_law_289 hl (by decide) rfl (fun ls hl => ?_)
      refine lv_aload_n hx hb dL_law_291 rfl (lv_at hl 4 rfl) ?_
      refine k_callVi (As := []) (rest := []) ⟨hx, hb, hml, hown, hts⟩ (c_X1_thrown l D cI2 cZ q2 (nI (cd1 (inB (xs (i + 1)) 8 && inB (xs (i + 2)) 8))) sh sp ld nm2 nk tx2 mn ds ct2 co st at0 ha tk) (cwV 0 hts gL_law_X1_thrown rfl rfl rfl (by decide +kernel) ⟨Nat.le_of_ble_eq_true rfl, Nat.le_of_ble_eq_true rfl⟩) k_B_bl (k_B_of (hP.sub [9, 10, 11, 12, 13, 14, 15, 16, 17, 18, 19] rfl) (hK.sub [1, 2] rfl)) (va_recv hK hP (ci := 1) (q0 := 9) rfl rfl) rfl hl.1 rfl (Nat.le_of_ble_eq_true rfl) dL_law_292 ⟨Nat.le_trans (Nat.le_refl _) hcc, Nat.le_trans (Nat.le_refl _) hss⟩ ?_
      refine lv_as (y := nI (0)) (congrArg nI hc2) ?_
      refine lv_iload hx hb dL_law_295 (lv_at hl 1 rfl) ?_
      refine lv_icmp_eq (tgt := 302) hx hb dL_law_297 (by decide) (fun _ => ?_) (fun h9 => absurd rfl h9)
      refine lv_iload hx hb dL_law_302 (lv_at hl 1 rfl) ?_
      refine n_if_ne (tgt := 319) hx hb dL_law_304 (by decide) (by decide) (fun h9 => absurd h9 (by decide)) (fun _ => ?_)
      refine lv_aload_n hx hb dL_law_307 rfl (lv_at hl 3 rfl) ?_
      refine lv_iconst (v := nI 0) hx hb dL_law_308 (by decide) ?_
      refine n_lald hx hb hK hP 20 3 rfl rfl dL_law_309 ?_
      refine lv_iload hx hb dL_law_310 (lv_at hl 0 rfl) ?_
      have hans : (df (sh a1) (sh a2)) = df (sh a1) (sh a2) := rfl
      refine lv_i2l (v := (df (sh a1) (sh a2)).toInt64) hx hb dL_law_312 rfl ?_
      refine n_lcmpEq hx hb (congrArg Int32.toInt64 hans) dL_law_313 ?_
      refine n_if_eq (tgt := 319) hx hb dL_law_314 (by decide) (by decide) (fun _ => ?_) (fun h9 => absurd h9 (by decide))
      refine lv_goto (tgt := 1298) hx hb dL_law_319 (by decide) ?_
      refine hk H locs ls ?_ (lv_sub hl [2, 3, 4, 5, 6] rfl)
      exact lwI_mk (hR) hP hD hS
set_option maxHeartbeats 4000000 in
set_option maxRecDepth 100000 in
theorem lo_width {p : Program} {l : Launch} {e : Env} {s : State} {m : MethodId} {below : List Frame} {meth : Method} {c : Code} {b L : Nat} {xs : Nat → Int32} {Q : State → Prop} {D : va_G} {cI cI2 cZ cJ : ClassId} {q q2 : Nat → Nat} {o : Nat} (hC : lwC p l s m meth c b L xs D cI cI2 cZ cJ) {i : Nat} (hi : i + 7 ≤ L) {cells slots : Nat} (hcc : cells + 8 ≤ room_1.cells) (hss : slots + 48 ≤ room_1.slots) {H : Heap} {locs : List Loc} (hI : lwI D cI q cI2 cZ q2 o cJ s H locs) {ls : Array Slot} (hl : lv_has ls 7 (lwL b q q2 o i)) (hk : ∀ (H : Heap) (locs : List Loc) (ls : Array Slot), lwI D cI q cI2 cZ q2 o cJ s H locs → lv_has ls 7 (lwL b q q2 o i) → W p l e room_1 s m #[Value.ref b] below meth c H locs (cells + 8) (slots + 48) Q (F0 m 1298 ls [])) : W p l e room_1 s m #[Value.ref b] below meth c H locs cells slots Q (F0 m 322 ls []) := by
  obtain ⟨C0, hst, hex, hnc, hK, hL⟩ := hC
  obtain ⟨hx, hb, hr, hml, hown, hts0, hX, hbl, hlocks, hgv⟩ := id C0
  have hts : ∀ w ∈ wsL_law, w.before #[Value.ref b] s = true := fun w h => hts0 w (wsL_law_in w h)
  have hown : s.vm.findClass RL = some m.cls := hown
  have hbA : ¬ (fun a : Nat => s.heap.size ≤ a) b := Nat.not_le.mpr hbl
  obtain ⟨sh, sp, ld, nm, tx, ds, ct, co, kg, ks, th, nm2, nk, tx2, mn, ct2, st, at0, ha, tk, f, T, K, T2, Ld, NT, NK, hR, hP, hD, hS⟩ := hI
  have hl : lv_has ls 7 [(4, .int (nI i)), (3, .ref o), (2, .ref (q2 0)), (1, .ref (q 0)), (0, .ref b)] := hl
  refine lv_aload_n hx hb dL_law_322 rfl (lv_at hl 3 rfl) ?_
  refine lv_aload_n hx hb dL_law_323 rfl (lv_at hl 4 rfl) ?_
  refine lv_iload hx hb dL_law_324 (lv_at hl 0 rfl) ?_
  refine lv_iconst (v := nI 1) hx hb dL_law_326 (by decide) ?_
  refine lv_iadd hx hb dL_law_327 ?_
  refine lv_as (y := nI (i + 1)) (nI_add _ _) ?_
  refine n_sld hx hb hX hbl hbA hS (k := i + 1) (by omega) (by omega) dL_law_328 ?_
  refine lv_aload_n hx hb dL_law_329 rfl (lv_at hl 1 rfl) ?_
  refine k_callTW (wr := (wm cI2 cZ q2 th sh sp ld nm2 nk tx2 mn ds ct2 co st at0 ha tk)) (As := [.ref (q 0), .int (xs (i + 1)), .ref o]) (rest := []) ⟨hx, hb, hml, hown, hts⟩ (c_L_width l hst D cI q sh sp ld nm tx ds ct co kg ks (xs (i + 1)) o cJ f (k_D_tt (hD.sub [0, 1, 2, 3, 4, 5, 6, 7, 8, 20] (by decide) rfl))) (vx_cwSW 3 hts gL_law_L_width rfl rfl rfl (by decide +kernel) ⟨Nat.le_of_ble_eq_true rfl, Nat.le_of_ble_eq_true rfl⟩) (k_en_bl k_B_bl) (fun U hU hW => ⟨k_B_of (hP.sub [0, 1, 2, 3, 4, 5, 6, 7, 8, 20] rfl) (hK.sub [0, 3] rfl) U hU hW, k_ex_mv hex hS (fun a h => Nat.not_le.mpr h) U hU hW, k_nc_of hnc U hW⟩) rfl hl.1 rfl (Nat.le_of_ble_eq_true rfl) dL_law_330 ⟨hcc, hss⟩ hP hD hS [9, 10, 11, 12, 13, 14, 15, 16, 17, 18, 19] [0, 1, 2, 3, 4, 5, 6, 7, 8, 20] rfl rfl (fun u => by cases u <;> rfl) (fun u H locs hu hP hD hS => ?_)
  have hcd : cd1 (inB (xs (i + 1)) 8) = cd1 (inB (xs (i + 1)) 8) := rfl
  rcases lw_or0 hu with ⟨rfl, hc⟩ | ⟨u1, rfl, hc, hpx⟩
  · skip
    have hP : va_P D vwCl (wx cI q sh sp ld nm tx ds ct co kg ks ++ wm cI2 cZ q2 th sh sp ld nm2 nk tx2 mn ds ct2 co st at0 ha tk ++ [wo o cJ f]) H := hP.sub [11, 12, 13, 14, 15, 16, 17, 18, 19, 0, 1, 2, 3, 4, 5, 6, 7, 8, 9, 10, 20] rfl
    have hD : va_D _ (wx cI q sh sp ld nm tx ds ct co kg ks ++ wm cI2 cZ q2 th sh sp ld nm2 nk tx2 mn ds ct2 co st at0 ha tk ++ [wo o cJ f]) := hD.sub [11, 12, 13, 14, 15, 16, 17, 18, 19, 0, 1, 2, 3, 4, 5, 6, 7, 8, 9, 10, 20] (by decide) rfl
    refine lv_istore (lv' := [(5, .int (nI (cd1 (inB (xs (i + 1)) 8)))), (4, .int (nI i)), (3, .ref o), (2, .ref (q2 0)), (1, .ref (q 0)), (0, .ref b)]) hx hb dL_law_333 hl (by decide) rfl (fun ls hl => ?_)
    refine lv_aload_n hx hb dL_law_335 rfl (lv_at hl 3 rfl) ?_
    refine lv_aload_n hx hb dL_law_336 rfl (lv_at hl 5 rfl) ?_
    refine lv_iload hx hb dL_law_337 (lv_at hl 1 rfl) ?_
    refine lv_iconst (v := nI 1) hx hb dL_law_339 (by decide) ?_
    refine lv_iadd hx hb dL_law_340 ?_
    refine lv_as (y := nI (i + 1)) (nI_add _ _) ?_
    refine n_sld hx hb hX hbl hbA hS (k := i + 1) (by omega) (by omega) dL_law_341 ?_
    refine k_callVW (wr := (wx cI q sh sp ld nm tx ds ct co kg ks ++ [wo o cJ f])) (As := [.int (xs (i + 1))]) (rest := []) ⟨hx, hb, hml, hown, hts⟩ (c_X1_width l D cI2 cZ q2 th sh sp ld nm2 nk tx2 mn ds ct2 co st at0 ha tk (xs (i + 1)) (k_D_tt (hD.sub [9, 10, 11, 12, 13, 14, 15, 16, 17, 18, 19] (by decide) rfl))) (cwV 1 hts gL_law_X1_width rfl rfl rfl (by decide +kernel) ⟨Nat.le_of_ble_eq_true rfl, Nat.le_of_ble_eq_true rfl⟩) k_B_bl (k_B_of (hP.sub [9, 10, 11, 12, 13, 14, 15, 16, 17, 18, 19] rfl) (hK.sub [1, 2] rfl)) (va_recv hK hP (ci := 1) (q0 := 9) rfl rfl) rfl hl.1 rfl (Nat.le_of_ble_eq_true rfl) dL_law_342 ⟨hcc, hss⟩ hP hD hS [0, 1, 2, 3, 4, 5, 6, 7, 8, 20] [9, 10, 11, 12, 13, 14, 15, 16, 17, 18, 19] rfl rfl (fun _ => rfl) (fun v H locs hv hP hD hS _ _ => ?_)
    obtain ⟨v1, vo⟩ := v
    obtain ⟨hv1, hv2⟩ := hv
    rcases lw_or0 hv2 with ⟨hvo, hc2⟩ | ⟨v2, hvo, hc2, hv3⟩
    · skip
      have hv1 : v1 = nI (cd1 (inB (xs (i + 1)) 8)) := hv1
      have hvo : vo = _ := hvo
      subst hvo
      subst hv1
      have hP : va_P D vwCl (wx cI q sh sp ld nm tx ds ct co kg ks ++ (wm cI2 cZ q2 (nI (cd1 (inB (xs (i + 1)) 8))) sh sp ld nm2 nk tx2 mn ds ct2 co st at0 ha tk) ++ [wo o cJ f]) H := hP.sub [0, 1, 2, 3, 4, 5, 6, 7, 8, 10, 11, 12, 13, 14, 15, 16, 17, 18, 19, 20, 9] rfl
      have hD : va_D _ (wx cI q sh sp ld nm tx ds ct co kg ks ++ (wm cI2 cZ q2 (nI (cd1 (inB (xs (i + 1)) 8))) sh sp ld nm2 nk tx2 mn ds ct2 co st at0 ha tk) ++ [wo o cJ f]) := hD.sub [0, 1, 2, 3, 4, 5, 6, 7, 8, 10, 11, 12, 13, 14, 15, 16, 17, 18, 19, 20, 9] (by decide) rfl
      refine lv_istore (lv' := [(6, .int (nI 0)), (5, .int (nI (cd1 (inB (xs (i + 1)) 8)))), (4, .int (nI i)), (3, .ref o), (2, .ref (q2 0)), (1, .ref (q 0)), (0, .ref b)]) hx hb dL_law_345 hl (by decide) rfl (fun ls hl => ?_)
      refine lv_aload_n hx hb dL_law_347 rfl (lv_at hl 4 rfl) ?_
      refine k_callVi (As := []) (rest := []) ⟨hx, hb, hml, hown, hts⟩ (c_X1_thrown l D cI2 cZ q2 (nI (cd1 (inB (xs (i + 1)) 8))) sh sp ld nm2 nk tx2 mn ds ct2 co st at0 ha tk) (cwV 0 hts gL_law_X1_thrown rfl rfl rfl (by decide +kernel) ⟨Nat.le_of_ble_eq_true rfl, Nat.le_of_ble_eq_true rfl⟩) k_B_bl (k_B_of (hP.sub [9, 10, 11, 12, 13, 14, 15, 16, 17, 18, 19] rfl) (hK.sub [1, 2] rfl)) (va_recv hK hP (ci := 1) (q0 := 9) rfl rfl) rfl hl.1 rfl (Nat.le_of_ble_eq_true rfl) dL_law_348 ⟨Nat.le_trans (Nat.le_refl _) hcc, Nat.le_trans (Nat.le_refl _) hss⟩ ?_
      refine lv_as (y := nI (cd1 (inB (xs (i + 1)) 8))) (congrArg nI hcd) ?_
      refine lv_iload hx hb dL_law_351 (lv_at hl 1 rfl) ?_
      refine lv_icmp_eq (tgt := 358) hx hb dL_law_353 (by decide) (fun _ => ?_) (fun h9 => absurd rfl h9)
      refine lv_iload hx hb dL_law_358 (lv_at hl 1 rfl) ?_
      refine n_if_ne (tgt := 375) hx hb dL_law_360 (by decide) (cd1_le _) (fun _ => ?_) (fun h9 => absurd h9 hc)
      refine lv_goto (tgt := 1298) hx hb dL_law_375 (by decide) ?_
      refine hk H locs ls ?_ (lv_sub hl [2, 3, 4, 5, 6] rfl)
      exact lwI_mk (hR) hP hD hS
    · exact absurd (hcd.symm.trans hc2) hc
  · skip
    obtain ⟨a1, hae⟩ : ∃ a1, a1 = u1 := ⟨_, rfl⟩
    subst hae
    obtain ⟨hp1, hp2⟩ := hpx
    have hp1 : a1 < 8 := hp1
    have hp2 : (xs (i + 1)) = nI a1 := hp2
    have hP : va_P D vwCl (wx cI q sh sp ld nm tx ds ct co kg ks ++ wm cI2 cZ q2 th sh sp ld nm2 nk tx2 mn ds ct2 co st at0 ha tk ++ [wo o cJ (vp_updL f 0 ((wdF (hcC (sh a1))).toInt64))]) H := hP.sub [11, 12, 13, 14, 15, 16, 17, 18, 19, 0, 1, 2, 3, 4, 5, 6, 7, 8, 9, 10, 20] rfl
    have hD : va_D _ (wx cI q sh sp ld nm tx ds ct co kg ks ++ wm cI2 cZ q2 th sh sp ld nm2 nk tx2 mn ds ct2 co st at0 ha tk ++ [wo o cJ (vp_updL f 0 ((wdF (hcC (sh a1))).toInt64))]) := hD.sub [11, 12, 13, 14, 15, 16, 17, 18, 19, 0, 1, 2, 3, 4, 5, 6, 7, 8, 9, 10, 20] (by decide) rfl
    refine lv_istore (lv' := [(5, .int (nI (0))), (4, .int (nI i)), (3, .ref o), (2, .ref (q2 0)), (1, .ref (q 0)), (0, .ref b)]) hx hb dL_law_333 hl (by decide) rfl (fun ls hl => ?_)
    refine lv_aload_n hx hb dL_law_335 rfl (lv_at hl 3 rfl) ?_
    refine lv_aload_n hx hb dL_law_336 rfl (lv_at hl 5 rfl) ?_
    refine lv_iload hx hb dL_law_337 (lv_at hl 1 rfl) ?_
    refine lv_iconst (v := nI 1) hx hb dL_law_339 (by decide) ?_
    refine lv_iadd hx hb dL_law_340 ?_
    refine lv_as (y := nI (i + 1)) (nI_add _ _) ?_
    refine n_sld hx hb hX hbl hbA hS (k := i + 1) (by omega) (by omega) dL_law_341 ?_
    refine k_callVW (wr := (wx cI q sh sp ld nm tx ds ct co kg ks ++ [wo o cJ (vp_updL f 0 ((wdF (hcC (sh a1))).toInt64))])) (As := [.int (xs (i + 1))]) (rest := []) ⟨hx, hb, hml, hown, hts⟩ (c_X1_width l D cI2 cZ q2 th sh sp ld nm2 nk tx2 mn ds ct2 co st at0 ha tk (xs (i + 1)) (k_D_tt (hD.sub [9, 10, 11, 12, 13, 14, 15, 16, 17, 18, 19] (by decide) rfl))) (cwV 1 hts gL_law_X1_width rfl rfl rfl (by decide +kernel) ⟨Nat.le_of_ble_eq_true rfl, Nat.le_of_ble_eq_true rfl⟩) k_B_bl (k_B_of (hP.sub [9, 10, 11, 12, 13, 14, 15, 16, 17, 18, 19] rfl) (hK.sub [1, 2] rfl)) (va_recv hK hP (ci := 1) (q0 := 9) rfl rfl) rfl hl.1 rfl (Nat.le_of_ble_eq_true rfl) dL_law_342 ⟨hcc, hss⟩ hP hD hS [0, 1, 2, 3, 4, 5, 6, 7, 8, 20] [9, 10, 11, 12, 13, 14, 15, 16, 17, 18, 19] rfl rfl (fun _ => rfl) (fun v H locs hv hP hD hS _ _ => ?_)
    obtain ⟨v1, vo⟩ := v
    obtain ⟨hv1, hv2⟩ := hv
    rcases lw_or0 hv2 with ⟨hvo, hc2⟩ | ⟨v2, hvo, hc2, hv3⟩
    · exact absurd (hcd.trans hc) hc2
    · skip
      have hv1 : v1 = nI (cd1 (inB (xs (i + 1)) 8)) := hv1
      have hvo : vo = _ := hvo
      subst hvo
      subst hv1
      obtain ⟨b1, hbe⟩ : ∃ b1, b1 = v2 := ⟨_, rfl⟩
      subst hbe
      obtain ⟨hq1, hq2⟩ := hv3
      have hq1 : b1 < 8 := hq1
      have hq2 : (xs (i + 1)) = nI b1 := hq2
      have hab : a1 = b1 := nI_inj (by omega) (by omega) (hp2.symm.trans hq2)
      subst hab
      have hP : va_P D vwCl (wx cI q sh sp ld nm tx ds ct co kg ks ++ (wm cI2 cZ q2 (nI (cd1 (inB (xs (i + 1)) 8))) sh sp ld nm2 nk tx2 mn ds ct2 co st at0 ha tk) ++ [wo o cJ (vp_updL f 0 ((wdF (hcC (sh a1))).toInt64))]) H := hP.sub [0, 1, 2, 3, 4, 5, 6, 7, 8, 10, 11, 12, 13, 14, 15, 16, 17, 18, 19, 20, 9] rfl
      have hD : va_D _ (wx cI q sh sp ld nm tx ds ct co kg ks ++ (wm cI2 cZ q2 (nI (cd1 (inB (xs (i + 1)) 8))) sh sp ld nm2 nk tx2 mn ds ct2 co st at0 ha tk) ++ [wo o cJ (vp_updL f 0 ((wdF (hcC (sh a1))).toInt64))]) := hD.sub [0, 1, 2, 3, 4, 5, 6, 7, 8, 10, 11, 12, 13, 14, 15, 16, 17, 18, 19, 20, 9] (by decide) rfl
      refine lv_istore (lv' := [(6, .int (wdF (hcW (sh a1)))), (5, .int (nI (0))), (4, .int (nI i)), (3, .ref o), (2, .ref (q2 0)), (1, .ref (q 0)), (0, .ref b)]) hx hb dL_law_345 hl (by decide) rfl (fun ls hl => ?_)
      refine lv_aload_n hx hb dL_law_347 rfl (lv_at hl 4 rfl) ?_
      refine k_callVi (As := []) (rest := []) ⟨hx, hb, hml, hown, hts⟩ (c_X1_thrown l D cI2 cZ q2 (nI (cd1 (inB (xs (i + 1)) 8))) sh sp ld nm2 nk tx2 mn ds ct2 co st at0 ha tk) (cwV 0 hts gL_law_X1_thrown rfl rfl rfl (by decide +kernel) ⟨Nat.le_of_ble_eq_true rfl, Nat.le_of_ble_eq_true rfl⟩) k_B_bl (k_B_of (hP.sub [9, 10, 11, 12, 13, 14, 15, 16, 17, 18, 19] rfl) (hK.sub [1, 2] rfl)) (va_recv hK hP (ci := 1) (q0 := 9) rfl rfl) rfl hl.1 rfl (Nat.le_of_ble_eq_true rfl) dL_law_348 ⟨Nat.le_trans (Nat.le_refl _) hcc, Nat.le_trans (Nat.le_refl _) hss⟩ ?_
      refine lv_as (y := nI (0)) (congrArg nI hc2) ?_
      refine lv_iload hx hb dL_law_351 (lv_at hl 1 rfl) ?_
      refine lv_icmp_eq (tgt := 358) hx hb dL_law_353 (by decide) (fun _ => ?_) (fun h9 => absurd rfl h9)
      refine lv_iload hx hb dL_law_358 (lv_at hl 1 rfl) ?_
      refine n_if_ne (tgt := 375) hx hb dL_law_360 (by decide) (by decide) (fun h9 => absurd h9 (by decide)) (fun _ => ?_)
      refine lv_aload_n hx hb dL_law_363 rfl (lv_at hl 3 rfl) ?_
      refine lv_iconst (v := nI 0) hx hb dL_law_364 (by decide) ?_
      refine n_lald hx hb hK hP 20 3 rfl rfl dL_law_365 ?_
      refine lv_iload hx hb dL_law_366 (lv_at hl 0 rfl) ?_
      have hans : (wdF (hcC (sh a1))) = wdF (hcW (sh a1)) := congrFun (wd_eq sh) a1
      refine lv_i2l (v := (wdF (hcW (sh a1))).toInt64) hx hb dL_law_368 rfl ?_
      refine n_lcmpEq hx hb (congrArg Int32.toInt64 hans) dL_law_369 ?_
      refine n_if_eq (tgt := 375) hx hb dL_law_370 (by decide) (by decide) (fun _ => ?_) (fun h9 => absurd h9 (by decide))
      refine lv_goto (tgt := 1298) hx hb dL_law_375 (by decide) ?_
      refine hk H locs ls ?_ (lv_sub hl [2, 3, 4, 5, 6] rfl)
      exact lwI_mk (hR) hP hD hS
set_option maxHeartbeats 4000000 in
set_option maxRecDepth 100000 in
theorem lo_space {p : Program} {l : Launch} {e : Env} {s : State} {m : MethodId} {below : List Frame} {meth : Method} {c : Code} {b L : Nat} {xs : Nat → Int32} {Q : State → Prop} {D : va_G} {cI cI2 cZ cJ : ClassId} {q q2 : Nat → Nat} {o : Nat} (hC : lwC p l s m meth c b L xs D cI cI2 cZ cJ) {i : Nat} (hi : i + 7 ≤ L) {cells slots : Nat} (hcc : cells + 8 ≤ room_1.cells) (hss : slots + 48 ≤ room_1.slots) {H : Heap} {locs : List Loc} (hI : lwI D cI q cI2 cZ q2 o cJ s H locs) {ls : Array Slot} (hl : lv_has ls 7 (lwL b q q2 o i)) (hk : ∀ (H : Heap) (locs : List Loc) (ls : Array Slot), lwI D cI q cI2 cZ q2 o cJ s H locs → lv_has ls 7 (lwL b q q2 o i) → W p l e room_1 s m #[Value.ref b] below meth c H locs (cells + 8) (slots + 48) Q (F0 m 1298 ls [])) : W p l e room_1 s m #[Value.ref b] below meth c H locs cells slots Q (F0 m 378 ls []) := by
  obtain ⟨C0, hst, hex, hnc, hK, hL⟩ := hC
  obtain ⟨hx, hb, hr, hml, hown, hts0, hX, hbl, hlocks, hgv⟩ := id C0
  have hts : ∀ w ∈ wsL_law, w.before #[Value.ref b] s = true := fun w h => hts0 w (wsL_law_in w h)
  have hown : s.vm.findClass RL = some m.cls := hown
  have hbA : ¬ (fun a : Nat => s.heap.size ≤ a) b := Nat.not_le.mpr hbl
  obtain ⟨sh, sp, ld, nm, tx, ds, ct, co, kg, ks, th, nm2, nk, tx2, mn, ct2, st, at0, ha, tk, f, T, K, T2, Ld, NT, NK, hR, hP, hD, hS⟩ := hI
  have hl : lv_has ls 7 [(4, .int (nI i)), (3, .ref o), (2, .ref (q2 0)), (1, .ref (q 0)), (0, .ref b)] := hl
  refine lv_aload_n hx hb dL_law_378 rfl (lv_at hl 3 rfl) ?_
  refine lv_aload_n hx hb dL_law_379 rfl (lv_at hl 4 rfl) ?_
  refine lv_iload hx hb dL_law_380 (lv_at hl 0 rfl) ?_
  refine lv_iconst (v := nI 1) hx hb dL_law_382 (by decide) ?_
  refine lv_iadd hx hb dL_law_383 ?_
  refine lv_as (y := nI (i + 1)) (nI_add _ _) ?_
  refine n_sld hx hb hX hbl hbA hS (k := i + 1) (by omega) (by omega) dL_law_384 ?_
  refine lv_aload_n hx hb dL_law_385 rfl (lv_at hl 4 rfl) ?_
  refine lv_iload hx hb dL_law_386 (lv_at hl 0 rfl) ?_
  refine lv_iconst (v := nI 2) hx hb dL_law_388 (by decide) ?_
  refine lv_iadd hx hb dL_law_389 ?_
  refine lv_as (y := nI (i + 2)) (nI_add _ _) ?_
  refine n_sld hx hb hX hbl hbA hS (k := i + 2) (by omega) (by omega) dL_law_390 ?_
  refine lv_aload_n hx hb dL_law_391 rfl (lv_at hl 4 rfl) ?_
  refine lv_iload hx hb dL_law_392 (lv_at hl 0 rfl) ?_
  refine lv_iconst (v := nI 3) hx hb dL_law_394 (by decide) ?_
  refine lv_iadd hx hb dL_law_395 ?_
  refine lv_as (y := nI (i + 3)) (nI_add _ _) ?_
  refine n_sld hx hb hX hbl hbA hS (k := i + 3) (by omega) (by omega) dL_law_396 ?_
  refine lv_aload_n hx hb dL_law_397 rfl (lv_at hl 1 rfl) ?_
  refine k_callTW (wr := (wm cI2 cZ q2 th sh sp ld nm2 nk tx2 mn ds ct2 co st at0 ha tk)) (As := [.ref (q 0), .int (xs (i + 1)), .int (xs (i + 2)), .int (xs (i + 3)), .ref o]) (rest := []) ⟨hx, hb, hml, hown, hts⟩ (c_L_space l hst D cI q sh sp ld nm tx ds ct co kg ks (xs (i + 1)) (xs (i + 2)) (xs (i + 3)) o cJ f (k_D_tt (hD.sub [0, 1, 2, 3, 4, 5, 6, 7, 8, 20] (by decide) rfl))) (vx_cwSW 5 hts gL_law_L_space rfl rfl rfl (by decide +kernel) ⟨Nat.le_of_ble_eq_true rfl, Nat.le_of_ble_eq_true rfl⟩) (k_en_bl k_B_bl) (fun U hU hW => ⟨k_B_of (hP.sub [0, 1, 2, 3, 4, 5, 6, 7, 8, 20] rfl) (hK.sub [0, 3] rfl) U hU hW, k_ex_mv hex hS (fun a h => Nat.not_le.mpr h) U hU hW, k_nc_of hnc U hW⟩) rfl hl.1 rfl (Nat.le_of_ble_eq_true rfl) dL_law_398 ⟨hcc, hss⟩ hP hD hS [9, 10, 11, 12, 13, 14, 15, 16, 17, 18, 19] [0, 1, 2, 3, 4, 5, 6, 7, 8, 20] rfl rfl (fun u => by cases u <;> rfl) (fun u H locs hu hP hD hS => ?_)
  have hcd : cd2 (inB (xs (i + 1)) 8 && inB (xs (i + 2)) 8) (rgB (xs (i + 3)) (-1) (nI 3)) = cd2 (inB (xs (i + 1)) 8 && inB (xs (i + 2)) 8) (rgB (xs (i + 3)) (-1) (nI 3)) := rfl
  rcases lw_or0 hu with ⟨rfl, hc⟩ | ⟨u1, rfl, hc, hpx⟩
  · skip
    have hP : va_P D vwCl (wx cI q sh sp ld nm tx ds ct co kg ks ++ wm cI2 cZ q2 th sh sp ld nm2 nk tx2 mn ds ct2 co st at0 ha tk ++ [wo o cJ f]) H := hP.sub [11, 12, 13, 14, 15, 16, 17, 18, 19, 0, 1, 2, 3, 4, 5, 6, 7, 8, 9, 10, 20] rfl
    have hD : va_D _ (wx cI q sh sp ld nm tx ds ct co kg ks ++ wm cI2 cZ q2 th sh sp ld nm2 nk tx2 mn ds ct2 co st at0 ha tk ++ [wo o cJ f]) := hD.sub [11, 12, 13, 14, 15, 16, 17, 18, 19, 0, 1, 2, 3, 4, 5, 6, 7, 8, 9, 10, 20] (by decide) rfl
    refine lv_istore (lv' := [(5, .int (nI (cd2 (inB (xs (i + 1)) 8 && inB (xs (i + 2)) 8) (rgB (xs (i + 3)) (-1) (nI 3))))), (4, .int (nI i)), (3, .ref o), (2, .ref (q2 0)), (1, .ref (q 0)), (0, .ref b)]) hx hb dL_law_401 hl (by decide) rfl (fun ls hl => ?_)
    refine lv_aload_n hx hb dL_law_403 rfl (lv_at hl 3 rfl) ?_
    refine lv_aload_n hx hb dL_law_404 rfl (lv_at hl 5 rfl) ?_
    refine lv_iload hx hb dL_law_405 (lv_at hl 1 rfl) ?_
    refine lv_iconst (v := nI 1) hx hb dL_law_407 (by decide) ?_
    refine lv_iadd hx hb dL_law_408 ?_
    refine lv_as (y := nI (i + 1)) (nI_add _ _) ?_
    refine n_sld hx hb hX hbl hbA hS (k := i + 1) (by omega) (by omega) dL_law_409 ?_
    refine lv_aload_n hx hb dL_law_410 rfl (lv_at hl 5 rfl) ?_
    refine lv_iload hx hb dL_law_411 (lv_at hl 1 rfl) ?_
    refine lv_iconst (v := nI 2) hx hb dL_law_413 (by decide) ?_
    refine lv_iadd hx hb dL_law_414 ?_
    refine lv_as (y := nI (i + 2)) (nI_add _ _) ?_
    refine n_sld hx hb hX hbl hbA hS (k := i + 2) (by omega) (by omega) dL_law_415 ?_
    refine lv_aload_n hx hb dL_law_416 rfl (lv_at hl 5 rfl) ?_
    refine lv_iload hx hb dL_law_417 (lv_at hl 1 rfl) ?_
    refine lv_iconst (v := nI 3) hx hb dL_law_419 (by decide) ?_
    refine lv_iadd hx hb dL_law_420 ?_
    refine lv_as (y := nI (i + 3)) (nI_add _ _) ?_
    refine n_sld hx hb hX hbl hbA hS (k := i + 3) (by omega) (by omega) dL_law_421 ?_
    refine k_callVW (wr := (wx cI q sh sp ld nm tx ds ct co kg ks ++ [wo o cJ f])) (As := [.int (xs (i + 1)), .int (xs (i + 2)), .int (xs (i + 3))]) (rest := []) ⟨hx, hb, hml, hown, hts⟩ (c_X1_space l D cI2 cZ q2 th sh sp ld nm2 nk tx2 mn ds ct2 co st at0 ha tk (xs (i + 1)) (xs (i + 2)) (xs (i + 3)) (k_D_tt (hD.sub [9, 10, 11, 12, 13, 14, 15, 16, 17, 18, 19] (by decide) rfl))) (cwV 3 hts gL_law_X1_space rfl rfl rfl (by decide +kernel) ⟨Nat.le_of_ble_eq_true rfl, Nat.le_of_ble_eq_true rfl⟩) k_B_bl (k_B_of (hP.sub [9, 10, 11, 12, 13, 14, 15, 16, 17, 18, 19] rfl) (hK.sub [1, 2] rfl)) (va_recv hK hP (ci := 1) (q0 := 9) rfl rfl) rfl hl.1 rfl (Nat.le_of_ble_eq_true rfl) dL_law_422 ⟨hcc, hss⟩ hP hD hS [0, 1, 2, 3, 4, 5, 6, 7, 8, 20] [9, 10, 11, 12, 13, 14, 15, 16, 17, 18, 19] rfl rfl (fun _ => rfl) (fun v H locs hv hP hD hS _ _ => ?_)
    obtain ⟨v1, vo⟩ := v
    obtain ⟨hv1, hv2⟩ := hv
    rcases lw_or0 hv2 with ⟨hvo, hc2⟩ | ⟨v2, hvo, hc2, hv3⟩
    · skip
      have hv1 : v1 = nI (cd2 (inB (xs (i + 1)) 8 && inB (xs (i + 2)) 8) (rgB (xs (i + 3)) (-1) (nI 3))) := hv1
      have hvo : vo = _ := hvo
      subst hvo
      subst hv1
      have hP : va_P D vwCl (wx cI q sh sp ld nm tx ds ct co kg ks ++ (wm cI2 cZ q2 (nI (cd2 (inB (xs (i + 1)) 8 && inB (xs (i + 2)) 8) (rgB (xs (i + 3)) (-1) (nI 3)))) sh sp ld nm2 nk tx2 mn ds ct2 co st at0 ha tk) ++ [wo o cJ f]) H := hP.sub [0, 1, 2, 3, 4, 5, 6, 7, 8, 10, 11, 12, 13, 14, 15, 16, 17, 18, 19, 20, 9] rfl
      have hD : va_D _ (wx cI q sh sp ld nm tx ds ct co kg ks ++ (wm cI2 cZ q2 (nI (cd2 (inB (xs (i + 1)) 8 && inB (xs (i + 2)) 8) (rgB (xs (i + 3)) (-1) (nI 3)))) sh sp ld nm2 nk tx2 mn ds ct2 co st at0 ha tk) ++ [wo o cJ f]) := hD.sub [0, 1, 2, 3, 4, 5, 6, 7, 8, 10, 11, 12, 13, 14, 15, 16, 17, 18, 19, 20, 9] (by decide) rfl
      refine lv_istore (lv' := [(6, .int (nI 0)), (5, .int (nI (cd2 (inB (xs (i + 1)) 8 && inB (xs (i + 2)) 8) (rgB (xs (i + 3)) (-1) (nI 3))))), (4, .int (nI i)), (3, .ref o), (2, .ref (q2 0)), (1, .ref (q 0)), (0, .ref b)]) hx hb dL_law_425 hl (by decide) rfl (fun ls hl => ?_)
      refine lv_aload_n hx hb dL_law_427 rfl (lv_at hl 4 rfl) ?_
      refine k_callVi (As := []) (rest := []) ⟨hx, hb, hml, hown, hts⟩ (c_X1_thrown l D cI2 cZ q2 (nI (cd2 (inB (xs (i + 1)) 8 && inB (xs (i + 2)) 8) (rgB (xs (i + 3)) (-1) (nI 3)))) sh sp ld nm2 nk tx2 mn ds ct2 co st at0 ha tk) (cwV 0 hts gL_law_X1_thrown rfl rfl rfl (by decide +kernel) ⟨Nat.le_of_ble_eq_true rfl, Nat.le_of_ble_eq_true rfl⟩) k_B_bl (k_B_of (hP.sub [9, 10, 11, 12, 13, 14, 15, 16, 17, 18, 19] rfl) (hK.sub [1, 2] rfl)) (va_recv hK hP (ci := 1) (q0 := 9) rfl rfl) rfl hl.1 rfl (Nat.le_of_ble_eq_true rfl) dL_law_428 ⟨Nat.le_trans (Nat.le_refl _) hcc, Nat.le_trans (Nat.le_refl _) hss⟩ ?_
      refine lv_as (y := nI (cd2 (inB (xs (i + 1)) 8 && inB (xs (i + 2)) 8) (rgB (xs (i + 3)) (-1) (nI 3)))) (congrArg nI hcd) ?_
      refine lv_iload hx hb dL_law_431 (lv_at hl 1 rfl) ?_
      refine lv_icmp_eq (tgt := 438) hx hb dL_law_433 (by decide) (fun _ => ?_) (fun h9 => absurd rfl h9)
      refine lv_iload hx hb dL_law_438 (lv_at hl 1 rfl) ?_
      refine n_if_ne (tgt := 455) hx hb dL_law_440 (by decide) (cd2_le _ _) (fun _ => ?_) (fun h9 => absurd h9 hc)
      refine lv_goto (tgt := 1298) hx hb dL_law_455 (by decide) ?_
      refine hk H locs ls ?_ (lv_sub hl [2, 3, 4, 5, 6] rfl)
      exact lwI_mk (hR) hP hD hS
    · exact absurd (hcd.symm.trans hc2) hc
  · skip
    obtain ⟨a1, a2⟩ := u1
    obtain ⟨hp1, hp2, hp3, hp4⟩ := hpx
    have hp1 : a1 < 8 := hp1
    have hp2 : (xs (i + 1)) = nI a1 := hp2
    have hp3 : a2 < 8 := hp3
    have hp4 : (xs (i + 2)) = nI a2 := hp4
    have hP : va_P D vwCl (wx cI q sh (upd sp (a1 * 8 + a2) (xs (i + 3))) ld nm tx ds ct co kg ks ++ wm cI2 cZ q2 th sh sp ld nm2 nk tx2 mn ds ct2 co st at0 ha tk ++ [wo o cJ (vp_updL f 0 ((sp (a1 * 8 + a2)).toInt64))]) H := hP.sub [11, 12, 13, 14, 15, 16, 17, 18, 19, 0, 1, 2, 3, 4, 5, 6, 7, 8, 9, 10, 20] rfl
    have hD : va_D _ (wx cI q sh (upd sp (a1 * 8 + a2) (xs (i + 3))) ld nm tx ds ct co kg ks ++ wm cI2 cZ q2 th sh sp ld nm2 nk tx2 mn ds ct2 co st at0 ha tk ++ [wo o cJ (vp_updL f 0 ((sp (a1 * 8 + a2)).toInt64))]) := hD.sub [11, 12, 13, 14, 15, 16, 17, 18, 19, 0, 1, 2, 3, 4, 5, 6, 7, 8, 9, 10, 20] (by decide) rfl
    rw [show a1 * 8 + a2 = 8 * a1 + a2 from by omega] at hP hD
    refine lv_istore (lv' := [(5, .int (nI (0))), (4, .int (nI i)), (3, .ref o), (2, .ref (q2 0)), (1, .ref (q 0)), (0, .ref b)]) hx hb dL_law_401 hl (by decide) rfl (fun ls hl => ?_)
    refine lv_aload_n hx hb dL_law_403 rfl (lv_at hl 3 rfl) ?_
    refine lv_aload_n hx hb dL_law_404 rfl (lv_at hl 5 rfl) ?_
    refine lv_iload hx hb dL_law_405 (lv_at hl 1 rfl) ?_
    refine lv_iconst (v := nI 1) hx hb dL_law_407 (by decide) ?_
    refine lv_iadd hx hb dL_law_408 ?_
    refine lv_as (y := nI (i + 1)) (nI_add _ _) ?_
    refine n_sld hx hb hX hbl hbA hS (k := i + 1) (by omega) (by omega) dL_law_409 ?_
    refine lv_aload_n hx hb dL_law_410 rfl (lv_at hl 5 rfl) ?_
    refine lv_iload hx hb dL_law_411 (lv_at hl 1 rfl) ?_
    refine lv_iconst (v := nI 2) hx hb dL_law_413 (by decide) ?_
    refine lv_iadd hx hb dL_law_414 ?_
    refine lv_as (y := nI (i + 2)) (nI_add _ _) ?_
    refine n_sld hx hb hX hbl hbA hS (k := i + 2) (by omega) (by omega) dL_law_415 ?_
    refine lv_aload_n hx hb dL_law_416 rfl (lv_at hl 5 rfl) ?_
    refine lv_iload hx hb dL_law_417 (lv_at hl 1 rfl) ?_
    refine lv_iconst (v := nI 3) hx hb dL_law_419 (by decide) ?_
    refine lv_iadd hx hb dL_law_420 ?_
    refine lv_as (y := nI (i + 3)) (nI_add _ _) ?_
    refine n_sld hx hb hX hbl hbA hS (k := i + 3) (by omega) (by omega) dL_law_421 ?_
    refine k_callVW (wr := (wx cI q sh (upd sp (8 * a1 + a2) (xs (i + 3))) ld nm tx ds ct co kg ks ++ [wo o cJ (vp_updL f 0 ((sp (8 * a1 + a2)).toInt64))])) (As := [.int (xs (i + 1)), .int (xs (i + 2)), .int (xs (i + 3))]) (rest := []) ⟨hx, hb, hml, hown, hts⟩ (c_X1_space l D cI2 cZ q2 th sh sp ld nm2 nk tx2 mn ds ct2 co st at0 ha tk (xs (i + 1)) (xs (i + 2)) (xs (i + 3)) (k_D_tt (hD.sub [9, 10, 11, 12, 13, 14, 15, 16, 17, 18, 19] (by decide) rfl))) (cwV 3 hts gL_law_X1_space rfl rfl rfl (by decide +kernel) ⟨Nat.le_of_ble_eq_true rfl, Nat.le_of_ble_eq_true rfl⟩) k_B_bl (k_B_of (hP.sub [9, 10, 11, 12, 13, 14, 15, 16, 17, 18, 19] rfl) (hK.sub [1, 2] rfl)) (va_recv hK hP (ci := 1) (q0 := 9) rfl rfl) rfl hl.1 rfl (Nat.le_of_ble_eq_true rfl) dL_law_422 ⟨hcc, hss⟩ hP hD hS [0, 1, 2, 3, 4, 5, 6, 7, 8, 20] [9, 10, 11, 12, 13, 14, 15, 16, 17, 18, 19] rfl rfl (fun _ => rfl) (fun v H locs hv hP hD hS _ _ => ?_)
    obtain ⟨v1, vo⟩ := v
    obtain ⟨hv1, hv2⟩ := hv
    rcases lw_or0 hv2 with ⟨hvo, hc2⟩ | ⟨v2, hvo, hc2, hv3⟩
    · exact absurd (hcd.trans hc) hc2
    · skip
      have hv1 : v1 = nI (cd2 (inB (xs (i + 1)) 8 && inB (xs (i + 2)) 8) (rgB (xs (i + 3)) (-1) (nI 3))) := hv1
      have hvo : vo = _ := hvo
      subst hvo
      subst hv1
      obtain ⟨b1, b2⟩ := v2
      obtain ⟨hq1, hq2, hq3, hq4⟩ := hv3
      have hq1 : b1 < 8 := hq1
      have hq2 : (xs (i + 1)) = nI b1 := hq2
      have hq3 : b2 < 8 := hq3
      have hq4 : (xs (i + 2)) = nI b2 := hq4
      have hab : a1 = b1 := nI_inj (by omega) (by omega) (hp2.symm.trans hq2)
      subst hab
      have hab : a2 = b2 := nI_inj (by omega) (by omega) (hp4.symm.trans hq4)
      subst hab
      have hP : va_P D vwCl (wx cI q sh (upd sp (8 * a1 + a2) (xs (i + 3))) ld nm tx ds ct co kg ks ++ (wm cI2 cZ q2 (nI (cd2 (inB (xs (i + 1)) 8 && inB (xs (i + 2)) 8) (rgB (xs (i + 3)) (-1) (nI 3)))) sh (upd sp (8 * a1 + a2) (xs (i + 3))) ld nm2 nk tx2 mn ds ct2 co st at0 ha tk) ++ [wo o cJ (vp_updL f 0 ((sp (8 * a1 + a2)).toInt64))]) H := hP.sub [0, 1, 2, 3, 4, 5, 6, 7, 8, 10, 11, 12, 13, 14, 15, 16, 17, 18, 19, 20, 9] rfl
      have hD : va_D _ (wx cI q sh (upd sp (8 * a1 + a2) (xs (i + 3))) ld nm tx ds ct co kg ks ++ (wm cI2 cZ q2 (nI (cd2 (inB (xs (i + 1)) 8 && inB (xs (i + 2)) 8) (rgB (xs (i + 3)) (-1) (nI 3)))) sh (upd sp (8 * a1 + a2) (xs (i + 3))) ld nm2 nk tx2 mn ds ct2 co st at0 ha tk) ++ [wo o cJ (vp_updL f 0 ((sp (8 * a1 + a2)).toInt64))]) := hD.sub [0, 1, 2, 3, 4, 5, 6, 7, 8, 10, 11, 12, 13, 14, 15, 16, 17, 18, 19, 20, 9] (by decide) rfl
      refine lv_istore (lv' := [(6, .int (sp (8 * a1 + a2))), (5, .int (nI (0))), (4, .int (nI i)), (3, .ref o), (2, .ref (q2 0)), (1, .ref (q 0)), (0, .ref b)]) hx hb dL_law_425 hl (by decide) rfl (fun ls hl => ?_)
      refine lv_aload_n hx hb dL_law_427 rfl (lv_at hl 4 rfl) ?_
      refine k_callVi (As := []) (rest := []) ⟨hx, hb, hml, hown, hts⟩ (c_X1_thrown l D cI2 cZ q2 (nI (cd2 (inB (xs (i + 1)) 8 && inB (xs (i + 2)) 8) (rgB (xs (i + 3)) (-1) (nI 3)))) sh (upd sp (8 * a1 + a2) (xs (i + 3))) ld nm2 nk tx2 mn ds ct2 co st at0 ha tk) (cwV 0 hts gL_law_X1_thrown rfl rfl rfl (by decide +kernel) ⟨Nat.le_of_ble_eq_true rfl, Nat.le_of_ble_eq_true rfl⟩) k_B_bl (k_B_of (hP.sub [9, 10, 11, 12, 13, 14, 15, 16, 17, 18, 19] rfl) (hK.sub [1, 2] rfl)) (va_recv hK hP (ci := 1) (q0 := 9) rfl rfl) rfl hl.1 rfl (Nat.le_of_ble_eq_true rfl) dL_law_428 ⟨Nat.le_trans (Nat.le_refl _) hcc, Nat.le_trans (Nat.le_refl _) hss⟩ ?_
      refine lv_as (y := nI (0)) (congrArg nI hc2) ?_
      refine lv_iload hx hb dL_law_431 (lv_at hl 1 rfl) ?_
      refine lv_icmp_eq (tgt := 438) hx hb dL_law_433 (by decide) (fun _ => ?_) (fun h9 => absurd rfl h9)
      refine lv_iload hx hb dL_law_438 (lv_at hl 1 rfl) ?_
      refine n_if_ne (tgt := 455) hx hb dL_law_440 (by decide) (by decide) (fun h9 => absurd h9 (by decide)) (fun _ => ?_)
      refine lv_aload_n hx hb dL_law_443 rfl (lv_at hl 3 rfl) ?_
      refine lv_iconst (v := nI 0) hx hb dL_law_444 (by decide) ?_
      refine n_lald hx hb hK hP 20 3 rfl rfl dL_law_445 ?_
      refine lv_iload hx hb dL_law_446 (lv_at hl 0 rfl) ?_
      have hans : (sp (8 * a1 + a2)) = sp (8 * a1 + a2) := rfl
      refine lv_i2l (v := (sp (8 * a1 + a2)).toInt64) hx hb dL_law_448 rfl ?_
      refine n_lcmpEq hx hb (congrArg Int32.toInt64 hans) dL_law_449 ?_
      refine n_if_eq (tgt := 455) hx hb dL_law_450 (by decide) (by decide) (fun _ => ?_) (fun h9 => absurd h9 (by decide))
      refine lv_goto (tgt := 1298) hx hb dL_law_455 (by decide) ?_
      refine hk H locs ls ?_ (lv_sub hl [2, 3, 4, 5, 6] rfl)
      exact lwI_mk (hR) hP hD hS
set_option maxHeartbeats 4000000 in
set_option maxRecDepth 100000 in
theorem lo_lead {p : Program} {l : Launch} {e : Env} {s : State} {m : MethodId} {below : List Frame} {meth : Method} {c : Code} {b L : Nat} {xs : Nat → Int32} {Q : State → Prop} {D : va_G} {cI cI2 cZ cJ : ClassId} {q q2 : Nat → Nat} {o : Nat} (hC : lwC p l s m meth c b L xs D cI cI2 cZ cJ) {i : Nat} (hi : i + 7 ≤ L) {cells slots : Nat} (hcc : cells + 8 ≤ room_1.cells) (hss : slots + 48 ≤ room_1.slots) {H : Heap} {locs : List Loc} (hI : lwI D cI q cI2 cZ q2 o cJ s H locs) {ls : Array Slot} (hl : lv_has ls 7 (lwL b q q2 o i)) (hk : ∀ (H : Heap) (locs : List Loc) (ls : Array Slot), lwI D cI q cI2 cZ q2 o cJ s H locs → lv_has ls 7 (lwL b q q2 o i) → W p l e room_1 s m #[Value.ref b] below meth c H locs (cells + 8) (slots + 48) Q (F0 m 1298 ls [])) : W p l e room_1 s m #[Value.ref b] below meth c H locs cells slots Q (F0 m 458 ls []) := by
  obtain ⟨C0, hst, hex, hnc, hK, hL⟩ := hC
  obtain ⟨hx, hb, hr, hml, hown, hts0, hX, hbl, hlocks, hgv⟩ := id C0
  have hts : ∀ w ∈ wsL_law, w.before #[Value.ref b] s = true := fun w h => hts0 w (wsL_law_in w h)
  have hown : s.vm.findClass RL = some m.cls := hown
  have hbA : ¬ (fun a : Nat => s.heap.size ≤ a) b := Nat.not_le.mpr hbl
  obtain ⟨sh, sp, ld, nm, tx, ds, ct, co, kg, ks, th, nm2, nk, tx2, mn, ct2, st, at0, ha, tk, f, T, K, T2, Ld, NT, NK, hR, hP, hD, hS⟩ := hI
  have hl : lv_has ls 7 [(4, .int (nI i)), (3, .ref o), (2, .ref (q2 0)), (1, .ref (q 0)), (0, .ref b)] := hl
  refine lv_aload_n hx hb dL_law_458 rfl (lv_at hl 3 rfl) ?_
  refine lv_aload_n hx hb dL_law_459 rfl (lv_at hl 4 rfl) ?_
  refine lv_iload hx hb dL_law_460 (lv_at hl 0 rfl) ?_
  refine lv_iconst (v := nI 1) hx hb dL_law_462 (by decide) ?_
  refine lv_iadd hx hb dL_law_463 ?_
  refine lv_as (y := nI (i + 1)) (nI_add _ _) ?_
  refine n_sld hx hb hX hbl hbA hS (k := i + 1) (by omega) (by omega) dL_law_464 ?_
  refine lv_aload_n hx hb dL_law_465 rfl (lv_at hl 4 rfl) ?_
  refine lv_iload hx hb dL_law_466 (lv_at hl 0 rfl) ?_
  refine lv_iconst (v := nI 2) hx hb dL_law_468 (by decide) ?_
  refine lv_iadd hx hb dL_law_469 ?_
  refine lv_as (y := nI (i + 2)) (nI_add _ _) ?_
  refine n_sld hx hb hX hbl hbA hS (k := i + 2) (by omega) (by omega) dL_law_470 ?_
  refine lv_aload_n hx hb dL_law_471 rfl (lv_at hl 4 rfl) ?_
  refine lv_iload hx hb dL_law_472 (lv_at hl 0 rfl) ?_
  refine lv_iconst (v := nI 3) hx hb dL_law_474 (by decide) ?_
  refine lv_iadd hx hb dL_law_475 ?_
  refine lv_as (y := nI (i + 3)) (nI_add _ _) ?_
  refine n_sld hx hb hX hbl hbA hS (k := i + 3) (by omega) (by omega) dL_law_476 ?_
  refine lv_aload_n hx hb dL_law_477 rfl (lv_at hl 1 rfl) ?_
  refine k_callTW (wr := (wm cI2 cZ q2 th sh sp ld nm2 nk tx2 mn ds ct2 co st at0 ha tk)) (As := [.ref (q 0), .int (xs (i + 1)), .int (xs (i + 2)), .int (xs (i + 3)), .ref o]) (rest := []) ⟨hx, hb, hml, hown, hts⟩ (c_L_lead l hst D cI q sh sp ld nm tx ds ct co kg ks (xs (i + 1)) (xs (i + 2)) (xs (i + 3)) o cJ f (k_D_tt (hD.sub [0, 1, 2, 3, 4, 5, 6, 7, 8, 20] (by decide) rfl))) (vx_cwSW 5 hts gL_law_L_lead rfl rfl rfl (by decide +kernel) ⟨Nat.le_of_ble_eq_true rfl, Nat.le_of_ble_eq_true rfl⟩) (k_en_bl k_B_bl) (fun U hU hW => ⟨k_B_of (hP.sub [0, 1, 2, 3, 4, 5, 6, 7, 8, 20] rfl) (hK.sub [0, 3] rfl) U hU hW, k_ex_mv hex hS (fun a h => Nat.not_le.mpr h) U hU hW, k_nc_of hnc U hW⟩) rfl hl.1 rfl (Nat.le_of_ble_eq_true rfl) dL_law_478 ⟨hcc, hss⟩ hP hD hS [9, 10, 11, 12, 13, 14, 15, 16, 17, 18, 19] [0, 1, 2, 3, 4, 5, 6, 7, 8, 20] rfl rfl (fun u => by cases u <;> rfl) (fun u H locs hu hP hD hS => ?_)
  have hcd : cd1 ((inB (xs (i + 1)) 8 && inB (xs (i + 2)) 4) && (decide ((xs (i + 3)) = -1) || inB (xs (i + 3)) 8)) = cd1 ((inB (xs (i + 1)) 8 && inB (xs (i + 2)) 4) && (decide ((xs (i + 3)) = -1) || inB (xs (i + 3)) 8)) := rfl
  rcases lw_or0 hu with ⟨rfl, hc⟩ | ⟨u1, rfl, hc, hpx⟩
  · skip
    have hP : va_P D vwCl (wx cI q sh sp ld nm tx ds ct co kg ks ++ wm cI2 cZ q2 th sh sp ld nm2 nk tx2 mn ds ct2 co st at0 ha tk ++ [wo o cJ f]) H := hP.sub [11, 12, 13, 14, 15, 16, 17, 18, 19, 0, 1, 2, 3, 4, 5, 6, 7, 8, 9, 10, 20] rfl
    have hD : va_D _ (wx cI q sh sp ld nm tx ds ct co kg ks ++ wm cI2 cZ q2 th sh sp ld nm2 nk tx2 mn ds ct2 co st at0 ha tk ++ [wo o cJ f]) := hD.sub [11, 12, 13, 14, 15, 16, 17, 18, 19, 0, 1, 2, 3, 4, 5, 6, 7, 8, 9, 10, 20] (by decide) rfl
    refine lv_istore (lv' := [(5, .int (nI (cd1 ((inB (xs (i + 1)) 8 && inB (xs (i + 2)) 4) && (decide ((xs (i + 3)) = -1) || inB (xs (i + 3)) 8))))), (4, .int (nI i)), (3, .ref o), (2, .ref (q2 0)), (1, .ref (q 0)), (0, .ref b)]) hx hb dL_law_481 hl (by decide) rfl (fun ls hl => ?_)
    refine lv_aload_n hx hb dL_law_483 rfl (lv_at hl 3 rfl) ?_
    refine lv_aload_n hx hb dL_law_484 rfl (lv_at hl 5 rfl) ?_
    refine lv_iload hx hb dL_law_485 (lv_at hl 1 rfl) ?_
    refine lv_iconst (v := nI 1) hx hb dL_law_487 (by decide) ?_
    refine lv_iadd hx hb dL_law_488 ?_
    refine lv_as (y := nI (i + 1)) (nI_add _ _) ?_
    refine n_sld hx hb hX hbl hbA hS (k := i + 1) (by omega) (by omega) dL_law_489 ?_
    refine lv_aload_n hx hb dL_law_490 rfl (lv_at hl 5 rfl) ?_
    refine lv_iload hx hb dL_law_491 (lv_at hl 1 rfl) ?_
    refine lv_iconst (v := nI 2) hx hb dL_law_493 (by decide) ?_
    refine lv_iadd hx hb dL_law_494 ?_
    refine lv_as (y := nI (i + 2)) (nI_add _ _) ?_
    refine n_sld hx hb hX hbl hbA hS (k := i + 2) (by omega) (by omega) dL_law_495 ?_
    refine lv_aload_n hx hb dL_law_496 rfl (lv_at hl 5 rfl) ?_
    refine lv_iload hx hb dL_law_497 (lv_at hl 1 rfl) ?_
    refine lv_iconst (v := nI 3) hx hb dL_law_499 (by decide) ?_
    refine lv_iadd hx hb dL_law_500 ?_
    refine lv_as (y := nI (i + 3)) (nI_add _ _) ?_
    refine n_sld hx hb hX hbl hbA hS (k := i + 3) (by omega) (by omega) dL_law_501 ?_
    refine k_callVW (wr := (wx cI q sh sp ld nm tx ds ct co kg ks ++ [wo o cJ f])) (As := [.int (xs (i + 1)), .int (xs (i + 2)), .int (xs (i + 3))]) (rest := []) ⟨hx, hb, hml, hown, hts⟩ (c_X1_lead l D cI2 cZ q2 th sh sp ld nm2 nk tx2 mn ds ct2 co st at0 ha tk (xs (i + 1)) (xs (i + 2)) (xs (i + 3)) (k_D_tt (hD.sub [9, 10, 11, 12, 13, 14, 15, 16, 17, 18, 19] (by decide) rfl))) (cwV 3 hts gL_law_X1_lead rfl rfl rfl (by decide +kernel) ⟨Nat.le_of_ble_eq_true rfl, Nat.le_of_ble_eq_true rfl⟩) k_B_bl (k_B_of (hP.sub [9, 10, 11, 12, 13, 14, 15, 16, 17, 18, 19] rfl) (hK.sub [1, 2] rfl)) (va_recv hK hP (ci := 1) (q0 := 9) rfl rfl) rfl hl.1 rfl (Nat.le_of_ble_eq_true rfl) dL_law_502 ⟨hcc, hss⟩ hP hD hS [0, 1, 2, 3, 4, 5, 6, 7, 8, 20] [9, 10, 11, 12, 13, 14, 15, 16, 17, 18, 19] rfl rfl (fun _ => rfl) (fun v H locs hv hP hD hS _ _ => ?_)
    obtain ⟨v1, vo⟩ := v
    obtain ⟨hv1, hv2⟩ := hv
    rcases lw_or0 hv2 with ⟨hvo, hc2⟩ | ⟨v2, hvo, hc2, hv3⟩
    · skip
      have hv1 : v1 = nI (cd1 ((inB (xs (i + 1)) 8 && inB (xs (i + 2)) 4) && (decide ((xs (i + 3)) = -1) || inB (xs (i + 3)) 8))) := hv1
      have hvo : vo = _ := hvo
      subst hvo
      subst hv1
      have hP : va_P D vwCl (wx cI q sh sp ld nm tx ds ct co kg ks ++ (wm cI2 cZ q2 (nI (cd1 ((inB (xs (i + 1)) 8 && inB (xs (i + 2)) 4) && (decide ((xs (i + 3)) = -1) || inB (xs (i + 3)) 8)))) sh sp ld nm2 nk tx2 mn ds ct2 co st at0 ha tk) ++ [wo o cJ f]) H := hP.sub [0, 1, 2, 3, 4, 5, 6, 7, 8, 10, 11, 12, 13, 14, 15, 16, 17, 18, 19, 20, 9] rfl
      have hD : va_D _ (wx cI q sh sp ld nm tx ds ct co kg ks ++ (wm cI2 cZ q2 (nI (cd1 ((inB (xs (i + 1)) 8 && inB (xs (i + 2)) 4) && (decide ((xs (i + 3)) = -1) || inB (xs (i + 3)) 8)))) sh sp ld nm2 nk tx2 mn ds ct2 co st at0 ha tk) ++ [wo o cJ f]) := hD.sub [0, 1, 2, 3, 4, 5, 6, 7, 8, 10, 11, 12, 13, 14, 15, 16, 17, 18, 19, 20, 9] (by decide) rfl
      refine lv_istore (lv' := [(6, .int (nI 0)), (5, .int (nI (cd1 ((inB (xs (i + 1)) 8 && inB (xs (i + 2)) 4) && (decide ((xs (i + 3)) = -1) || inB (xs (i + 3)) 8))))), (4, .int (nI i)), (3, .ref o), (2, .ref (q2 0)), (1, .ref (q 0)), (0, .ref b)]) hx hb dL_law_505 hl (by decide) rfl (fun ls hl => ?_)
      refine lv_aload_n hx hb dL_law_507 rfl (lv_at hl 4 rfl) ?_
      refine k_callVi (As := []) (rest := []) ⟨hx, hb, hml, hown, hts⟩ (c_X1_thrown l D cI2 cZ q2 (nI (cd1 ((inB (xs (i + 1)) 8 && inB (xs (i + 2)) 4) && (decide ((xs (i + 3)) = -1) || inB (xs (i + 3)) 8)))) sh sp ld nm2 nk tx2 mn ds ct2 co st at0 ha tk) (cwV 0 hts gL_law_X1_thrown rfl rfl rfl (by decide +kernel) ⟨Nat.le_of_ble_eq_true rfl, Nat.le_of_ble_eq_true rfl⟩) k_B_bl (k_B_of (hP.sub [9, 10, 11, 12, 13, 14, 15, 16, 17, 18, 19] rfl) (hK.sub [1, 2] rfl)) (va_recv hK hP (ci := 1) (q0 := 9) rfl rfl) rfl hl.1 rfl (Nat.le_of_ble_eq_true rfl) dL_law_508 ⟨Nat.le_trans (Nat.le_refl _) hcc, Nat.le_trans (Nat.le_refl _) hss⟩ ?_
      refine lv_as (y := nI (cd1 ((inB (xs (i + 1)) 8 && inB (xs (i + 2)) 4) && (decide ((xs (i + 3)) = -1) || inB (xs (i + 3)) 8)))) (congrArg nI hcd) ?_
      refine lv_iload hx hb dL_law_511 (lv_at hl 1 rfl) ?_
      refine lv_icmp_eq (tgt := 518) hx hb dL_law_513 (by decide) (fun _ => ?_) (fun h9 => absurd rfl h9)
      refine lv_iload hx hb dL_law_518 (lv_at hl 1 rfl) ?_
      refine n_if_ne (tgt := 535) hx hb dL_law_520 (by decide) (cd1_le _) (fun _ => ?_) (fun h9 => absurd h9 hc)
      refine lv_goto (tgt := 1298) hx hb dL_law_535 (by decide) ?_
      refine hk H locs ls ?_ (lv_sub hl [2, 3, 4, 5, 6] rfl)
      exact lwI_mk (hR) hP hD hS
    · exact absurd (hcd.symm.trans hc2) hc
  · skip
    obtain ⟨a1, a2, a3⟩ := u1
    obtain ⟨hp1, hp2, hp3, hp4, hp5, hp6⟩ := hpx
    have hp1 : a1 < 8 := hp1
    have hp2 : (xs (i + 1)) = nI a1 := hp2
    have hp3 : a2 < 4 := hp3
    have hp4 : (xs (i + 2)) = nI a2 := hp4
    have hp5 : a3 ≤ 8 := hp5
    have hp6 : (xs (i + 3)) = ix a3 := hp6
    have hP : va_P D vwCl (wx cI q sh sp (upd ld (a1 * 4 + a2) (xs (i + 3))) nm tx ds ct co (nI 0) ks ++ wm cI2 cZ q2 th sh sp ld nm2 nk tx2 mn ds ct2 co st at0 ha tk ++ [wo o cJ (vp_updL f 0 ((ld (a1 * 4 + a2)).toInt64))]) H := hP.sub [11, 12, 13, 14, 15, 16, 17, 18, 19, 0, 1, 2, 3, 4, 5, 6, 7, 8, 9, 10, 20] rfl
    have hD : va_D _ (wx cI q sh sp (upd ld (a1 * 4 + a2) (xs (i + 3))) nm tx ds ct co (nI 0) ks ++ wm cI2 cZ q2 th sh sp ld nm2 nk tx2 mn ds ct2 co st at0 ha tk ++ [wo o cJ (vp_updL f 0 ((ld (a1 * 4 + a2)).toInt64))]) := hD.sub [11, 12, 13, 14, 15, 16, 17, 18, 19, 0, 1, 2, 3, 4, 5, 6, 7, 8, 9, 10, 20] (by decide) rfl
    rw [show a1 * 4 + a2 = 4 * a1 + a2 from by omega] at hP hD
    refine lv_istore (lv' := [(5, .int (nI (0))), (4, .int (nI i)), (3, .ref o), (2, .ref (q2 0)), (1, .ref (q 0)), (0, .ref b)]) hx hb dL_law_481 hl (by decide) rfl (fun ls hl => ?_)
    refine lv_aload_n hx hb dL_law_483 rfl (lv_at hl 3 rfl) ?_
    refine lv_aload_n hx hb dL_law_484 rfl (lv_at hl 5 rfl) ?_
    refine lv_iload hx hb dL_law_485 (lv_at hl 1 rfl) ?_
    refine lv_iconst (v := nI 1) hx hb dL_law_487 (by decide) ?_
    refine lv_iadd hx hb dL_law_488 ?_
    refine lv_as (y := nI (i + 1)) (nI_add _ _) ?_
    refine n_sld hx hb hX hbl hbA hS (k := i + 1) (by omega) (by omega) dL_law_489 ?_
    refine lv_aload_n hx hb dL_law_490 rfl (lv_at hl 5 rfl) ?_
    refine lv_iload hx hb dL_law_491 (lv_at hl 1 rfl) ?_
    refine lv_iconst (v := nI 2) hx hb dL_law_493 (by decide) ?_
    refine lv_iadd hx hb dL_law_494 ?_
    refine lv_as (y := nI (i + 2)) (nI_add _ _) ?_
    refine n_sld hx hb hX hbl hbA hS (k := i + 2) (by omega) (by omega) dL_law_495 ?_
    refine lv_aload_n hx hb dL_law_496 rfl (lv_at hl 5 rfl) ?_
    refine lv_iload hx hb dL_law_497 (lv_at hl 1 rfl) ?_
    refine lv_iconst (v := nI 3) hx hb dL_law_499 (by decide) ?_
    refine lv_iadd hx hb dL_law_500 ?_
    refine lv_as (y := nI (i + 3)) (nI_add _ _) ?_
    refine n_sld hx hb hX hbl hbA hS (k := i + 3) (by omega) (by omega) dL_law_501 ?_
    refine k_callVW (wr := (wx cI q sh sp (upd ld (4 * a1 + a2) (xs (i + 3))) nm tx ds ct co (nI 0) ks ++ [wo o cJ (vp_updL f 0 ((ld (4 * a1 + a2)).toInt64))])) (As := [.int (xs (i + 1)), .int (xs (i + 2)), .int (xs (i + 3))]) (rest := []) ⟨hx, hb, hml, hown, hts⟩ (c_X1_lead l D cI2 cZ q2 th sh sp ld nm2 nk tx2 mn ds ct2 co st at0 ha tk (xs (i + 1)) (xs (i + 2)) (xs (i + 3)) (k_D_tt (hD.sub [9, 10, 11, 12, 13, 14, 15, 16, 17, 18, 19] (by decide) rfl))) (cwV 3 hts gL_law_X1_lead rfl rfl rfl (by decide +kernel) ⟨Nat.le_of_ble_eq_true rfl, Nat.le_of_ble_eq_true rfl⟩) k_B_bl (k_B_of (hP.sub [9, 10, 11, 12, 13, 14, 15, 16, 17, 18, 19] rfl) (hK.sub [1, 2] rfl)) (va_recv hK hP (ci := 1) (q0 := 9) rfl rfl) rfl hl.1 rfl (Nat.le_of_ble_eq_true rfl) dL_law_502 ⟨hcc, hss⟩ hP hD hS [0, 1, 2, 3, 4, 5, 6, 7, 8, 20] [9, 10, 11, 12, 13, 14, 15, 16, 17, 18, 19] rfl rfl (fun _ => rfl) (fun v H locs hv hP hD hS _ _ => ?_)
    obtain ⟨v1, vo⟩ := v
    obtain ⟨hv1, hv2⟩ := hv
    rcases lw_or0 hv2 with ⟨hvo, hc2⟩ | ⟨v2, hvo, hc2, hv3⟩
    · exact absurd (hcd.trans hc) hc2
    · skip
      have hv1 : v1 = nI (cd1 ((inB (xs (i + 1)) 8 && inB (xs (i + 2)) 4) && (decide ((xs (i + 3)) = -1) || inB (xs (i + 3)) 8))) := hv1
      have hvo : vo = _ := hvo
      subst hvo
      subst hv1
      obtain ⟨b1, b2, b3⟩ := v2
      obtain ⟨hq1, hq2, hq3, hq4, hq5, hq6⟩ := hv3
      have hq1 : b1 < 8 := hq1
      have hq2 : (xs (i + 1)) = nI b1 := hq2
      have hq3 : b2 < 4 := hq3
      have hq4 : (xs (i + 2)) = nI b2 := hq4
      have hq5 : b3 ≤ 8 := hq5
      have hq6 : (xs (i + 3)) = ix b3 := hq6
      have hab : a1 = b1 := nI_inj (by omega) (by omega) (hp2.symm.trans hq2)
      subst hab
      have hab : a2 = b2 := nI_inj (by omega) (by omega) (hp4.symm.trans hq4)
      subst hab
      have hP : va_P D vwCl (wx cI q sh sp (upd ld (4 * a1 + a2) (xs (i + 3))) nm tx ds ct co (nI 0) ks ++ (wm cI2 cZ q2 (nI (cd1 ((inB (xs (i + 1)) 8 && inB (xs (i + 2)) 4) && (decide ((xs (i + 3)) = -1) || inB (xs (i + 3)) 8)))) sh sp (upd ld (4 * a1 + a2) (xs (i + 3))) nm2 nk tx2 mn ds ct2 co st at0 ha tk) ++ [wo o cJ (vp_updL f 0 ((ld (4 * a1 + a2)).toInt64))]) H := hP.sub [0, 1, 2, 3, 4, 5, 6, 7, 8, 10, 11, 12, 13, 14, 15, 16, 17, 18, 19, 20, 9] rfl
      have hD : va_D _ (wx cI q sh sp (upd ld (4 * a1 + a2) (xs (i + 3))) nm tx ds ct co (nI 0) ks ++ (wm cI2 cZ q2 (nI (cd1 ((inB (xs (i + 1)) 8 && inB (xs (i + 2)) 4) && (decide ((xs (i + 3)) = -1) || inB (xs (i + 3)) 8)))) sh sp (upd ld (4 * a1 + a2) (xs (i + 3))) nm2 nk tx2 mn ds ct2 co st at0 ha tk) ++ [wo o cJ (vp_updL f 0 ((ld (4 * a1 + a2)).toInt64))]) := hD.sub [0, 1, 2, 3, 4, 5, 6, 7, 8, 10, 11, 12, 13, 14, 15, 16, 17, 18, 19, 20, 9] (by decide) rfl
      refine lv_istore (lv' := [(6, .int (ld (4 * a1 + a2))), (5, .int (nI (0))), (4, .int (nI i)), (3, .ref o), (2, .ref (q2 0)), (1, .ref (q 0)), (0, .ref b)]) hx hb dL_law_505 hl (by decide) rfl (fun ls hl => ?_)
      refine lv_aload_n hx hb dL_law_507 rfl (lv_at hl 4 rfl) ?_
      refine k_callVi (As := []) (rest := []) ⟨hx, hb, hml, hown, hts⟩ (c_X1_thrown l D cI2 cZ q2 (nI (cd1 ((inB (xs (i + 1)) 8 && inB (xs (i + 2)) 4) && (decide ((xs (i + 3)) = -1) || inB (xs (i + 3)) 8)))) sh sp (upd ld (4 * a1 + a2) (xs (i + 3))) nm2 nk tx2 mn ds ct2 co st at0 ha tk) (cwV 0 hts gL_law_X1_thrown rfl rfl rfl (by decide +kernel) ⟨Nat.le_of_ble_eq_true rfl, Nat.le_of_ble_eq_true rfl⟩) k_B_bl (k_B_of (hP.sub [9, 10, 11, 12, 13, 14, 15, 16, 17, 18, 19] rfl) (hK.sub [1, 2] rfl)) (va_recv hK hP (ci := 1) (q0 := 9) rfl rfl) rfl hl.1 rfl (Nat.le_of_ble_eq_true rfl) dL_law_508 ⟨Nat.le_trans (Nat.le_refl _) hcc, Nat.le_trans (Nat.le_refl _) hss⟩ ?_
      refine lv_as (y := nI (0)) (congrArg nI hc2) ?_
      refine lv_iload hx hb dL_law_511 (lv_at hl 1 rfl) ?_
      refine lv_icmp_eq (tgt := 518) hx hb dL_law_513 (by decide) (fun _ => ?_) (fun h9 => absurd rfl h9)
      have hR2 : lwR sh (upd ld (4 * a1 + a2) (xs (i + 3))) nm tx ds ct (nI 0) ks nm2 nk tx2 mn ct2 T K T2 (fun w => if w = 4 * a1 + a2 then a3 else Ld w) NT NK := by rw [hp6]; exact hR.lead hp5
      refine lv_iload hx hb dL_law_518 (lv_at hl 1 rfl) ?_
      refine n_if_ne (tgt := 535) hx hb dL_law_520 (by decide) (by decide) (fun h9 => absurd h9 (by decide)) (fun _ => ?_)
      refine lv_aload_n hx hb dL_law_523 rfl (lv_at hl 3 rfl) ?_
      refine lv_iconst (v := nI 0) hx hb dL_law_524 (by decide) ?_
      refine n_lald hx hb hK hP 20 3 rfl rfl dL_law_525 ?_
      refine lv_iload hx hb dL_law_526 (lv_at hl 0 rfl) ?_
      have hans : (ld (4 * a1 + a2)) = ld (4 * a1 + a2) := rfl
      refine lv_i2l (v := (ld (4 * a1 + a2)).toInt64) hx hb dL_law_528 rfl ?_
      refine n_lcmpEq hx hb (congrArg Int32.toInt64 hans) dL_law_529 ?_
      refine n_if_eq (tgt := 535) hx hb dL_law_530 (by decide) (by decide) (fun _ => ?_) (fun h9 => absurd h9 (by decide))
      refine lv_goto (tgt := 1298) hx hb dL_law_535 (by decide) ?_
      refine hk H locs ls ?_ (lv_sub hl [2, 3, 4, 5, 6] rfl)
      exact lwI_mk (hR2) hP hD hS
