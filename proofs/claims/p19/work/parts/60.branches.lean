set_option maxHeartbeats 4000000 in
set_option maxRecDepth 100000 in
theorem lb_stroke {p : Program} {l : Launch} {e : Env} {s : State} {m : MethodId} {below : List Frame} {meth : Method} {c : Code} {b L : Nat} {xs : Nat → Int32} {D : va_G} {cI : ClassId} {q : Nat → Nat} {a1 a2 : Nat} {co : Int64} {H : Heap} {locs : List Loc} {ls : Array Slot} {turn : Nat} {vv ww : Int32} (hC : lqC p s m meth c b L xs D cI)  (hI : lqI D cI q a1 a2 co s H locs) (hl : lv_has ls 24 (lqM b q a1 a2 co turn vv ww)) (hk : ∀ (H : Heap) (locs : List Loc) (ls : Array Slot) (co : Int64), lqI D cI q a1 a2 co s H locs → lv_has ls 24 (lqM b q a1 a2 co turn vv ww) → W p l e room_1 s m #[Value.ref b] below meth c H locs 96 1076 (lw_Z below #[Value.ref b] s) (F0 m 700 ls [])) : W p l e room_1 s m #[Value.ref b] below meth c H locs 96 1076 (lw_Z below #[Value.ref b] s) (F0 m 148 ls []) := by
  obtain ⟨C0, hK, hL⟩ := id hC
  obtain ⟨hx, hb, hr, hml, hown, hts0, hX, hbl, hlocks, hgv⟩ := id C0
  have hts : ∀ w ∈ wsL_law, w.before #[Value.ref b] s = true := fun w h => hts0 w (wsL_law_in w h)
  have hown : s.vm.findClass RL = some m.cls := hown
  have hbA : ¬ (fun a : Nat => s.heap.size ≤ a) b := Nat.not_le.mpr hbl
  obtain ⟨sh, sp, ld, nm, tx, ds, ct, kg, ks, sg, lq, T, K, Ld, NT, NK, hR, hP, hD, hS⟩ := hI
  have hl : lv_has ls 24 [(0, .ref b), (1, .ref (q 0)), (2, .ref a1), (3, .ref a2), (4, .long co), (6, .int (nI turn)), (7, .int vv), (8, .int ww), (15, .int (nI 1))] := hl
  have hsh := hR.1
  refine lv_iload hx hb dL_law_148 (lv_at hl 7 rfl) ?_
  refine lv_bipush (v := nI 8) hx hb dL_law_150 (by decide) ?_
  refine k_callSi (As := [.int ww, .int (nI 8)]) (rest := []) ⟨hx, hb, hml, hown, hts⟩ (c_L_low l ww 8 (by decide) (by decide)) (va_cwS 2 hts gL_law_L_low rfl rfl rfl (by decide +kernel) ⟨Nat.le_of_ble_eq_true rfl, Nat.le_of_ble_eq_true rfl⟩) k_bl_tt (fun _ _ _ => trivial) rfl hl.1 rfl (Nat.le_of_ble_eq_true rfl) dL_law_152 ⟨Nat.le_of_ble_eq_true rfl, Nat.le_of_ble_eq_true rfl⟩ ?_
  obtain ⟨gl, e_gl⟩ : ∃ z, lowN ww 8 = z := ⟨_, rfl⟩
  have h_gl : gl < 8 := by rw [← e_gl]; exact lowN_lt _ (by decide)
  refine lv_as (y := nI gl) (congrArg nI e_gl) ?_
  refine lv_istore (lv' := [(16, .int (nI gl)), (0, .ref b), (1, .ref (q 0)), (2, .ref a1), (3, .ref a2), (4, .long co), (6, .int (nI turn)), (7, .int vv), (8, .int ww), (15, .int (nI 1))]) hx hb dL_law_155 hl (by decide) rfl (fun ls hl => ?_)
  refine lv_iload hx hb dL_law_157 (lv_at hl 8 rfl) ?_
  refine lv_iconst (v := nI 3) hx hb dL_law_159 (by decide) ?_
  refine lv_ishr hx hb dL_law_160 ?_
  refine lv_iconst (v := nI 5) hx hb dL_law_161 (by decide) ?_
  refine k_callSi (As := [.int (ww >>> ((nI 3) &&& 31)), .int (nI 5)]) (rest := []) ⟨hx, hb, hml, hown, hts⟩ (c_L_low l (ww >>> ((nI 3) &&& 31)) 5 (by decide) (by decide)) (va_cwS 2 hts gL_law_L_low rfl rfl rfl (by decide +kernel) ⟨Nat.le_of_ble_eq_true rfl, Nat.le_of_ble_eq_true rfl⟩) k_bl_tt (fun _ _ _ => trivial) rfl hl.1 rfl (Nat.le_of_ble_eq_true rfl) dL_law_162 ⟨Nat.le_of_ble_eq_true rfl, Nat.le_of_ble_eq_true rfl⟩ ?_
  obtain ⟨x1, e_x1⟩ : ∃ z, lowN (ww >>> ((nI 3) &&& 31)) 5 = z := ⟨_, rfl⟩
  have h_x1 : x1 < 5 := by rw [← e_x1]; exact lowN_lt _ (by decide)
  refine lv_as (y := nI x1) (congrArg nI e_x1) ?_
  refine lv_istore (lv' := [(17, .int (nI x1)), (16, .int (nI gl)), (0, .ref b), (1, .ref (q 0)), (2, .ref a1), (3, .ref a2), (4, .long co), (6, .int (nI turn)), (7, .int vv), (8, .int ww), (15, .int (nI 1))]) hx hb dL_law_165 hl (by decide) rfl (fun ls hl => ?_)
  refine lv_iload hx hb dL_law_167 (lv_at hl 9 rfl) ?_
  refine lv_bipush (v := nI 6) hx hb dL_law_169 (by decide) ?_
  refine lv_ishr hx hb dL_law_171 ?_
  refine lv_iconst (v := nI 5) hx hb dL_law_172 (by decide) ?_
  refine k_callSi (As := [.int (ww >>> ((nI 6) &&& 31)), .int (nI 5)]) (rest := []) ⟨hx, hb, hml, hown, hts⟩ (c_L_low l (ww >>> ((nI 6) &&& 31)) 5 (by decide) (by decide)) (va_cwS 2 hts gL_law_L_low rfl rfl rfl (by decide +kernel) ⟨Nat.le_of_ble_eq_true rfl, Nat.le_of_ble_eq_true rfl⟩) k_bl_tt (fun _ _ _ => trivial) rfl hl.1 rfl (Nat.le_of_ble_eq_true rfl) dL_law_173 ⟨Nat.le_of_ble_eq_true rfl, Nat.le_of_ble_eq_true rfl⟩ ?_
  obtain ⟨y1, e_y1⟩ : ∃ z, lowN (ww >>> ((nI 6) &&& 31)) 5 = z := ⟨_, rfl⟩
  have h_y1 : y1 < 5 := by rw [← e_y1]; exact lowN_lt _ (by decide)
  refine lv_as (y := nI y1) (congrArg nI e_y1) ?_
  refine lv_istore (lv' := [(18, .int (nI y1)), (17, .int (nI x1)), (16, .int (nI gl)), (0, .ref b), (1, .ref (q 0)), (2, .ref a1), (3, .ref a2), (4, .long co), (6, .int (nI turn)), (7, .int vv), (8, .int ww), (15, .int (nI 1))]) hx hb dL_law_176 hl (by decide) rfl (fun ls hl => ?_)
  refine lv_iload hx hb dL_law_178 (lv_at hl 10 rfl) ?_
  refine lv_bipush (v := nI 9) hx hb dL_law_180 (by decide) ?_
  refine lv_ishr hx hb dL_law_182 ?_
  refine lv_iconst (v := nI 5) hx hb dL_law_183 (by decide) ?_
  refine k_callSi (As := [.int (ww >>> ((nI 9) &&& 31)), .int (nI 5)]) (rest := []) ⟨hx, hb, hml, hown, hts⟩ (c_L_low l (ww >>> ((nI 9) &&& 31)) 5 (by decide) (by decide)) (va_cwS 2 hts gL_law_L_low rfl rfl rfl (by decide +kernel) ⟨Nat.le_of_ble_eq_true rfl, Nat.le_of_ble_eq_true rfl⟩) k_bl_tt (fun _ _ _ => trivial) rfl hl.1 rfl (Nat.le_of_ble_eq_true rfl) dL_law_184 ⟨Nat.le_of_ble_eq_true rfl, Nat.le_of_ble_eq_true rfl⟩ ?_
  obtain ⟨far, e_far⟩ : ∃ z, lowN (ww >>> ((nI 9) &&& 31)) 5 = z := ⟨_, rfl⟩
  have h_far : far < 5 := by rw [← e_far]; exact lowN_lt _ (by decide)
  refine lv_as (y := nI far) (congrArg nI e_far) ?_
  refine lv_istore (lv' := [(19, .int (nI far)), (18, .int (nI y1)), (17, .int (nI x1)), (16, .int (nI gl)), (0, .ref b), (1, .ref (q 0)), (2, .ref a1), (3, .ref a2), (4, .long co), (6, .int (nI turn)), (7, .int vv), (8, .int ww), (15, .int (nI 1))]) hx hb dL_law_187 hl (by decide) rfl (fun ls hl => ?_)
  refine W.joinI (pc2 := 218) (st2 := []) (J := jX x1 far) (fun j_218 => ?_) (fun dx hdx => ?_)
  · refine lv_iload hx hb dL_law_189 (lv_at hl 2 rfl) ?_
    refine lv_iload hx hb dL_law_191 (lv_at hl 0 rfl) ?_
    refine lv_iadd hx hb dL_law_193 ?_
    refine lv_as (y := nI (x1 + far)) (nI_add _ _) ?_
    refine lv_iconst (v := nI 5) hx hb dL_law_194 (by decide) ?_
    refine n_icmp_ge (tgt := 203) hx hb dL_law_195 (by decide) (by omega) (by omega) (fun c_195 => ?_) (fun c_195 => ?_)
    · refine lv_iload hx hb dL_law_203 (lv_at hl 2 rfl) ?_
      refine lv_iload hx hb dL_law_205 (lv_at hl 0 rfl) ?_
      refine lv_isub hx hb dL_law_207 ?_
      refine lv_if_lt (tgt := 217) hx hb dL_law_208 (by decide) (fun c_208 => ?_) (fun c_208 => ?_)
      · refine lv_iconst (v := nI 0) hx hb dL_law_217 (by decide) ?_
        exact j_218 _ (jX_c h_x1)
      · refine lv_iload hx hb dL_law_211 (lv_at hl 0 rfl) ?_
        refine lv_ineg hx hb dL_law_213 ?_
        refine lv_goto (tgt := 218) hx hb dL_law_214 (by decide) ?_
        exact j_218 _ (jX_b h_x1 h_far c_208)
    · refine lv_iload hx hb dL_law_198 (lv_at hl 0 rfl) ?_
      refine lv_goto (tgt := 218) hx hb dL_law_200 (by decide) ?_
      exact j_218 _ (jX_a h_x1 h_far c_195)
  · obtain ⟨c1, hc1, ec1, oc1⟩ := hdx
    refine lv_istore (lv' := [(20, .int dx), (19, .int (nI far)), (18, .int (nI y1)), (17, .int (nI x1)), (16, .int (nI gl)), (0, .ref b), (1, .ref (q 0)), (2, .ref a1), (3, .ref a2), (4, .long co), (6, .int (nI turn)), (7, .int vv), (8, .int ww), (15, .int (nI 1))]) hx hb dL_law_218 hl (by decide) rfl (fun ls hl => ?_)
    refine W.joinI (pc2 := 256) (st2 := []) (J := jY y1 far dx) (fun j_256 => ?_) (fun dy hdy => ?_)
    · refine lv_iload hx hb dL_law_220 (lv_at hl 12 rfl) ?_
      refine lv_bipush (v := nI 12) hx hb dL_law_222 (by decide) ?_
      refine lv_ishr hx hb dL_law_224 ?_
      refine lv_iconst (v := nI 3) hx hb dL_law_225 (by decide) ?_
      refine k_callSi (As := [.int (ww >>> ((nI 12) &&& 31)), .int (nI 3)]) (rest := []) ⟨hx, hb, hml, hown, hts⟩ (c_L_low l (ww >>> ((nI 12) &&& 31)) 3 (by decide) (by decide)) (va_cwS 2 hts gL_law_L_low rfl rfl rfl (by decide +kernel) ⟨Nat.le_of_ble_eq_true rfl, Nat.le_of_ble_eq_true rfl⟩) k_bl_tt (fun _ _ _ => trivial) rfl hl.1 rfl (Nat.le_of_ble_eq_true rfl) dL_law_226 ⟨Nat.le_of_ble_eq_true rfl, Nat.le_of_ble_eq_true rfl⟩ ?_
      obtain ⟨y226, e_y226⟩ : ∃ z, lowN (ww >>> ((nI 12) &&& 31)) 3 = z := ⟨_, rfl⟩
      have h_y226 : y226 < 3 := by rw [← e_y226]; exact lowN_lt _ (by decide)
      refine lv_as (y := nI y226) (congrArg nI e_y226) ?_
      refine n_if_ne (tgt := 236) hx hb dL_law_229 (by decide) (by omega) (fun c_229 => ?_) (fun c_229 => ?_)
      · refine lv_iload hx hb dL_law_236 (lv_at hl 2 rfl) ?_
        refine lv_iload hx hb dL_law_238 (lv_at hl 1 rfl) ?_
        refine lv_iadd hx hb dL_law_240 ?_
        refine lv_as (y := nI (y1 + far)) (nI_add _ _) ?_
        refine lv_iconst (v := nI 5) hx hb dL_law_241 (by decide) ?_
        refine n_icmp_ge (tgt := 255) hx hb dL_law_242 (by decide) (by omega) (by omega) (fun c_242 => ?_) (fun c_242 => ?_)
        · refine lv_iconst (v := nI 0) hx hb dL_law_255 (by decide) ?_
          exact j_256 _ (jY_c h_y1)
        · refine lv_iload hx hb dL_law_245 (lv_at hl 0 rfl) ?_
          refine lv_if_eq (tgt := 255) hx hb dL_law_247 (by decide) (fun c_247 => ?_) (fun c_247 => ?_)
          · refine lv_iconst (v := nI 0) hx hb dL_law_255 (by decide) ?_
            exact j_256 _ (jY_c h_y1)
          · refine lv_iload hx hb dL_law_250 (lv_at hl 1 rfl) ?_
            refine lv_goto (tgt := 256) hx hb dL_law_252 (by decide) ?_
            exact j_256 _ (jY_a h_far c_242 c_247)
      · refine lv_iconst (v := nI 0) hx hb dL_law_232 (by decide) ?_
        refine lv_goto (tgt := 256) hx hb dL_law_233 (by decide) ?_
        exact j_256 _ (jY_c h_y1)
    · obtain ⟨d1, hd1, ed1, od1⟩ := hdy
      have hln := ln_of oc1 od1
      refine lv_istore (lv' := [(21, .int dy), (20, .int dx), (19, .int (nI far)), (18, .int (nI y1)), (17, .int (nI x1)), (16, .int (nI gl)), (0, .ref b), (1, .ref (q 0)), (2, .ref a1), (3, .ref a2), (4, .long co), (6, .int (nI turn)), (7, .int vv), (8, .int ww), (15, .int (nI 1))]) hx hb dL_law_256 hl (by decide) rfl (fun ls hl => ?_)
      refine W.joinI (pc2 := 275) (st2 := []) (J := fun _ => True) (fun j_275 => ?_) (fun bk _hbk => ?_)
      · refine lv_iload hx hb dL_law_258 (lv_at hl 13 rfl) ?_
        refine lv_bipush (v := nI 14) hx hb dL_law_260 (by decide) ?_
        refine lv_ishr hx hb dL_law_262 ?_
        refine lv_iconst (v := nI 4) hx hb dL_law_263 (by decide) ?_
        refine k_callSi (As := [.int (ww >>> ((nI 14) &&& 31)), .int (nI 4)]) (rest := []) ⟨hx, hb, hml, hown, hts⟩ (c_L_low l (ww >>> ((nI 14) &&& 31)) 4 (by decide) (by decide)) (va_cwS 2 hts gL_law_L_low rfl rfl rfl (by decide +kernel) ⟨Nat.le_of_ble_eq_true rfl, Nat.le_of_ble_eq_true rfl⟩) k_bl_tt (fun _ _ _ => trivial) rfl hl.1 rfl (Nat.le_of_ble_eq_true rfl) dL_law_264 ⟨Nat.le_of_ble_eq_true rfl, Nat.le_of_ble_eq_true rfl⟩ ?_
        obtain ⟨y264, e_y264⟩ : ∃ z, lowN (ww >>> ((nI 14) &&& 31)) 4 = z := ⟨_, rfl⟩
        have h_y264 : y264 < 4 := by rw [← e_y264]; exact lowN_lt _ (by decide)
        refine lv_as (y := nI y264) (congrArg nI e_y264) ?_
        refine n_if_le (tgt := 274) hx hb dL_law_267 (by decide) (by omega) (fun c_267 => ?_) (fun c_267 => ?_)
        · refine lv_iconst (v := nI 0) hx hb dL_law_274 (by decide) ?_
          exact j_275 _ (trivial)
        · refine lv_iconst (v := nI 1) hx hb dL_law_270 (by decide) ?_
          refine lv_goto (tgt := 275) hx hb dL_law_271 (by decide) ?_
          exact j_275 _ (trivial)
      · refine lv_istore (lv' := [(22, .int bk), (21, .int dy), (20, .int dx), (19, .int (nI far)), (18, .int (nI y1)), (17, .int (nI x1)), (16, .int (nI gl)), (0, .ref b), (1, .ref (q 0)), (2, .ref a1), (3, .ref a2), (4, .long co), (6, .int (nI turn)), (7, .int vv), (8, .int ww), (15, .int (nI 1))]) hx hb dL_law_275 hl (by decide) rfl (fun ls hl => ?_)
        refine lv_aload_n hx hb dL_law_277 rfl (lv_at hl 8 rfl) ?_
        refine lv_iload hx hb dL_law_278 (lv_at hl 6 rfl) ?_
        refine lv_iload hx hb dL_law_280 (lv_at hl 5 rfl) ?_
        refine lv_iload hx hb dL_law_282 (lv_at hl 4 rfl) ?_
        refine lv_iload hx hb dL_law_284 (lv_at hl 5 rfl) ?_
        refine lv_iload hx hb dL_law_286 (lv_at hl 2 rfl) ?_
        refine lv_iadd hx hb dL_law_288 ?_
        refine lv_as (y := nI c1) (ec1) ?_
        refine lv_iload hx hb dL_law_289 (lv_at hl 4 rfl) ?_
        refine lv_iload hx hb dL_law_291 (lv_at hl 1 rfl) ?_
        refine lv_iadd hx hb dL_law_293 ?_
        refine lv_as (y := nI d1) (ed1) ?_
        refine lv_iload hx hb dL_law_294 (lv_at hl 0 rfl) ?_
        refine k_callVW (wr := [(a1, .inl (cI, 32, .inl sg)), (a2, .inl (cI, 32, .inl lq))]) (As := [.int (nI gl), .int (nI x1), .int (nI y1), .int (nI c1), .int (nI d1), .int bk]) (rest := []) ⟨hx, hb, hml, hown, hts⟩ (c_X0_stroke l D cI q sh sp ld nm tx ds ct co kg ks gl x1 y1 c1 d1 bk h_gl h_x1 h_y1 hc1 hd1 hln hsh (k_D_tt (hD.sub [0, 1, 2, 3, 4, 5, 6, 7, 8] (by decide) rfl))) (cwV 6 hts gL_law_X0_stroke rfl rfl rfl (by decide +kernel) ⟨Nat.le_of_ble_eq_true rfl, Nat.le_of_ble_eq_true rfl⟩) k_B_bl (k_B_of (hP.sub [0, 1, 2, 3, 4, 5, 6, 7, 8] rfl) hK) (va_recv hK hP (ci := 0) (q0 := 0) rfl rfl) rfl hl.1 rfl (Nat.le_of_ble_eq_true rfl) dL_law_296 ⟨Nat.le_of_ble_eq_true rfl, Nat.le_of_ble_eq_true rfl⟩ hP hD hS [9, 10] [0, 1, 2, 3, 4, 5, 6, 7, 8] rfl rfl (fun _ => rfl) (fun u_296 H locs hu_296 hP hD hS hsz hkp => ?_)
        have hP : va_P D vwCl (wl cI q a1 a2 (upd sh gl (stk bk (sh gl) (lcN x1 y1 c1 d1))) sp ld nm tx ds ct co (nI 0) ks sg lq) H := hP.sub [2, 3, 4, 5, 6, 7, 8, 9, 10, 0, 1] rfl
        have hD : va_D (fun a : Nat => s.heap.size ≤ a) (wl cI q a1 a2 (upd sh gl (stk bk (sh gl) (lcN x1 y1 c1 d1))) sp ld nm tx ds ct co (nI 0) ks sg lq) := hD.sub [2, 3, 4, 5, 6, 7, 8, 9, 10, 0, 1] (by decide) rfl
        obtain ⟨ch, hch5, hch⟩ := df_stk h_x1 h_y1 hc1 hd1 hln (bk := bk) (hR.1 _ h_gl)
        refine lv_as (y := nI ch) (hch) ?_
        have hR := hR.stroke (g := gl) (S25_stk (bk := bk) (hR.1 _ h_gl) (S25_lcN h_x1 h_y1 hc1 hd1 hln))
        have hsh := hR.1
        refine lv_istore (lv' := [(23, .int (nI ch)), (22, .int bk), (21, .int dy), (20, .int dx), (19, .int (nI far)), (18, .int (nI y1)), (17, .int (nI x1)), (16, .int (nI gl)), (0, .ref b), (1, .ref (q 0)), (2, .ref a1), (3, .ref a2), (4, .long co), (6, .int (nI turn)), (7, .int vv), (8, .int ww), (15, .int (nI 1))]) hx hb dL_law_299 hl (by decide) rfl (fun ls hl => ?_)
        refine lv_iload hx hb dL_law_301 (lv_at hl 0 rfl) ?_
        refine n_if_lt (tgt := 341) hx hb dL_law_303 (by decide) (by omega) ?_
        refine lv_iload hx hb dL_law_306 (lv_at hl 0 rfl) ?_
        refine lv_iconst (v := nI 5) hx hb dL_law_308 (by decide) ?_
        refine n_icmp_gt (tgt := 341) hx hb dL_law_309 (by decide) (by omega) (by omega) (fun c_309 => ?_) (fun c_309 => ?_)
        · exact absurd hch5 (by omega)
        · refine lv_aload_n hx hb dL_law_312 rfl (lv_at hl 9 rfl) ?_
          refine lv_iload hx hb dL_law_313 (lv_at hl 7 rfl) ?_
          refine lv_iload hx hb dL_law_315 (lv_at hl 6 rfl) ?_
          refine lv_iload hx hb dL_law_317 (lv_at hl 5 rfl) ?_
          refine lv_iload hx hb dL_law_319 (lv_at hl 6 rfl) ?_
          refine lv_iload hx hb dL_law_321 (lv_at hl 3 rfl) ?_
          refine lv_iadd hx hb dL_law_323 ?_
          refine lv_as (y := nI c1) (ec1) ?_
          refine lv_iload hx hb dL_law_324 (lv_at hl 5 rfl) ?_
          refine lv_iload hx hb dL_law_326 (lv_at hl 2 rfl) ?_
          refine lv_iadd hx hb dL_law_328 ?_
          refine lv_as (y := nI d1) (ed1) ?_
          refine lv_iload hx hb dL_law_329 (lv_at hl 1 rfl) ?_
          refine k_callVW (wr := [(a1, .inl (cI, 32, .inl sg)), (a2, .inl (cI, 32, .inl lq))]) (As := [.int (nI gl), .int (nI x1), .int (nI y1), .int (nI c1), .int (nI d1), .int bk]) (rest := []) ⟨hx, hb, hml, hown, hts⟩ (c_X0_stroke l D cI q (upd sh gl (stk bk (sh gl) (lcN x1 y1 c1 d1))) sp ld nm tx ds ct co (nI 0) ks gl x1 y1 c1 d1 bk h_gl h_x1 h_y1 hc1 hd1 hln hsh (k_D_tt (hD.sub [0, 1, 2, 3, 4, 5, 6, 7, 8] (by decide) rfl))) (cwV 6 hts gL_law_X0_stroke rfl rfl rfl (by decide +kernel) ⟨Nat.le_of_ble_eq_true rfl, Nat.le_of_ble_eq_true rfl⟩) k_B_bl (k_B_of (hP.sub [0, 1, 2, 3, 4, 5, 6, 7, 8] rfl) hK) (va_recv hK hP (ci := 0) (q0 := 0) rfl rfl) rfl hl.1 rfl (Nat.le_of_ble_eq_true rfl) dL_law_331 ⟨Nat.le_of_ble_eq_true rfl, Nat.le_of_ble_eq_true rfl⟩ hP hD hS [9, 10] [0, 1, 2, 3, 4, 5, 6, 7, 8] rfl rfl (fun _ => rfl) (fun u_331 H locs hu_331 hP hD hS hsz hkp => ?_)
          have hP : va_P D vwCl (wl cI q a1 a2 (upd (upd sh gl (stk bk (sh gl) (lcN x1 y1 c1 d1))) gl (stk bk ((upd sh gl (stk bk (sh gl) (lcN x1 y1 c1 d1))) gl) (lcN x1 y1 c1 d1))) sp ld nm tx ds ct co (nI 0) ks sg lq) H := hP.sub [2, 3, 4, 5, 6, 7, 8, 9, 10, 0, 1] rfl
          have hD : va_D (fun a : Nat => s.heap.size ≤ a) (wl cI q a1 a2 (upd (upd sh gl (stk bk (sh gl) (lcN x1 y1 c1 d1))) gl (stk bk ((upd sh gl (stk bk (sh gl) (lcN x1 y1 c1 d1))) gl) (lcN x1 y1 c1 d1))) sp ld nm tx ds ct co (nI 0) ks sg lq) := hD.sub [2, 3, 4, 5, 6, 7, 8, 9, 10, 0, 1] (by decide) rfl
          refine lv_as (y := nI 0) (by rw [pk_us, stk_stk]; exact df_self _) ?_
          have hR := hR.stroke (g := gl) (S25_stk (bk := bk) (hR.1 _ h_gl) (S25_lcN h_x1 h_y1 hc1 hd1 hln))
          refine n_if_ne (tgt := 341) hx hb dL_law_334 (by decide) (by decide) (fun c_334 => absurd c_334 (by decide)) (fun _ => ?_)
          refine lv_iconst (v := nI 1) hx hb dL_law_337 (by decide) ?_
          refine lv_goto (tgt := 342) hx hb dL_law_338 (by decide) ?_
          refine lv_istore (lv' := [(15, .int (nI 1)), (23, .int (nI ch)), (22, .int bk), (21, .int dy), (20, .int dx), (19, .int (nI far)), (18, .int (nI y1)), (17, .int (nI x1)), (16, .int (nI gl)), (0, .ref b), (1, .ref (q 0)), (2, .ref a1), (3, .ref a2), (4, .long co), (6, .int (nI turn)), (7, .int vv), (8, .int ww)]) hx hb dL_law_342 hl (by decide) rfl (fun ls hl => ?_)
          refine lv_goto (tgt := 700) hx hb dL_law_344 (by decide) ?_
          exact hk _ _ _ _ (lqI_mk hR hP hD hS) (lv_sub hl [9, 10, 11, 12, 13, 14, 15, 16, 0] rfl)
set_option maxHeartbeats 4000000 in
set_option maxRecDepth 100000 in
theorem lb_space {p : Program} {l : Launch} {e : Env} {s : State} {m : MethodId} {below : List Frame} {meth : Method} {c : Code} {b L : Nat} {xs : Nat → Int32} {D : va_G} {cI : ClassId} {q : Nat → Nat} {a1 a2 : Nat} {co : Int64} {H : Heap} {locs : List Loc} {ls : Array Slot} {turn : Nat} {vv ww : Int32} (hC : lqC p s m meth c b L xs D cI)  (hI : lqI D cI q a1 a2 co s H locs) (hl : lv_has ls 24 (lqM b q a1 a2 co turn vv ww)) (hk : ∀ (H : Heap) (locs : List Loc) (ls : Array Slot) (co : Int64), lqI D cI q a1 a2 co s H locs → lv_has ls 24 (lqM b q a1 a2 co turn vv ww) → W p l e room_1 s m #[Value.ref b] below meth c H locs 96 1076 (lw_Z below #[Value.ref b] s) (F0 m 700 ls [])) : W p l e room_1 s m #[Value.ref b] below meth c H locs 96 1076 (lw_Z below #[Value.ref b] s) (F0 m 353 ls []) := by
  obtain ⟨C0, hK, hL⟩ := id hC
  obtain ⟨hx, hb, hr, hml, hown, hts0, hX, hbl, hlocks, hgv⟩ := id C0
  have hts : ∀ w ∈ wsL_law, w.before #[Value.ref b] s = true := fun w h => hts0 w (wsL_law_in w h)
  have hown : s.vm.findClass RL = some m.cls := hown
  have hbA : ¬ (fun a : Nat => s.heap.size ≤ a) b := Nat.not_le.mpr hbl
  obtain ⟨sh, sp, ld, nm, tx, ds, ct, kg, ks, sg, lq, T, K, Ld, NT, NK, hR, hP, hD, hS⟩ := hI
  have hl : lv_has ls 24 [(0, .ref b), (1, .ref (q 0)), (2, .ref a1), (3, .ref a2), (4, .long co), (6, .int (nI turn)), (7, .int vv), (8, .int ww), (15, .int (nI 1))] := hl
  refine lv_iload hx hb dL_law_353 (lv_at hl 7 rfl) ?_
  refine lv_bipush (v := nI 6) hx hb dL_law_355 (by decide) ?_
  refine lv_ishr hx hb dL_law_357 ?_
  refine lv_iconst (v := nI 5) hx hb dL_law_358 (by decide) ?_
  refine k_callSi (As := [.int (ww >>> ((nI 6) &&& 31)), .int (nI 5)]) (rest := []) ⟨hx, hb, hml, hown, hts⟩ (c_L_low l (ww >>> ((nI 6) &&& 31)) 5 (by decide) (by decide)) (va_cwS 2 hts gL_law_L_low rfl rfl rfl (by decide +kernel) ⟨Nat.le_of_ble_eq_true rfl, Nat.le_of_ble_eq_true rfl⟩) k_bl_tt (fun _ _ _ => trivial) rfl hl.1 rfl (Nat.le_of_ble_eq_true rfl) dL_law_359 ⟨Nat.le_of_ble_eq_true rfl, Nat.le_of_ble_eq_true rfl⟩ ?_
  obtain ⟨y359, e_y359⟩ : ∃ z, lowN (ww >>> ((nI 6) &&& 31)) 5 = z := ⟨_, rfl⟩
  have h_y359 : y359 < 5 := by rw [← e_y359]; exact lowN_lt _ (by decide)
  refine lv_as (y := nI y359) (congrArg nI e_y359) ?_
  refine lv_iconst (v := nI 1) hx hb dL_law_362 (by decide) ?_
  refine lv_isub hx hb dL_law_363 ?_
  obtain ⟨hv1, hv2⟩ := sp_rg y359 h_y359
  refine lv_as (y := nI y359 - nI 1) (rfl) ?_
  refine lv_istore (lv' := [(16, .int (nI y359 - nI 1)), (0, .ref b), (1, .ref (q 0)), (2, .ref a1), (3, .ref a2), (4, .long co), (6, .int (nI turn)), (7, .int vv), (8, .int ww), (15, .int (nI 1))]) hx hb dL_law_364 hl (by decide) rfl (fun ls hl => ?_)
  refine lv_aload_n hx hb dL_law_366 rfl (lv_at hl 2 rfl) ?_
  refine lv_iload hx hb dL_law_367 (lv_at hl 8 rfl) ?_
  refine lv_bipush (v := nI 8) hx hb dL_law_369 (by decide) ?_
  refine k_callSi (As := [.int ww, .int (nI 8)]) (rest := [.ref (q 0)]) ⟨hx, hb, hml, hown, hts⟩ (c_L_low l ww 8 (by decide) (by decide)) (va_cwS 2 hts gL_law_L_low rfl rfl rfl (by decide +kernel) ⟨Nat.le_of_ble_eq_true rfl, Nat.le_of_ble_eq_true rfl⟩) k_bl_tt (fun _ _ _ => trivial) rfl hl.1 rfl (Nat.le_of_ble_eq_true rfl) dL_law_371 ⟨Nat.le_of_ble_eq_true rfl, Nat.le_of_ble_eq_true rfl⟩ ?_
  obtain ⟨y371, e_y371⟩ : ∃ z, lowN ww 8 = z := ⟨_, rfl⟩
  have h_y371 : y371 < 8 := by rw [← e_y371]; exact lowN_lt _ (by decide)
  refine lv_as (y := nI y371) (congrArg nI e_y371) ?_
  refine lv_iload hx hb dL_law_374 (lv_at hl 8 rfl) ?_
  refine lv_iconst (v := nI 3) hx hb dL_law_376 (by decide) ?_
  refine lv_ishr hx hb dL_law_377 ?_
  refine lv_bipush (v := nI 8) hx hb dL_law_378 (by decide) ?_
  refine k_callSi (As := [.int (ww >>> ((nI 3) &&& 31)), .int (nI 8)]) (rest := [.int (nI y371), .ref (q 0)]) ⟨hx, hb, hml, hown, hts⟩ (c_L_low l (ww >>> ((nI 3) &&& 31)) 8 (by decide) (by decide)) (va_cwS 2 hts gL_law_L_low rfl rfl rfl (by decide +kernel) ⟨Nat.le_of_ble_eq_true rfl, Nat.le_of_ble_eq_true rfl⟩) k_bl_tt (fun _ _ _ => trivial) rfl hl.1 rfl (Nat.le_of_ble_eq_true rfl) dL_law_380 ⟨Nat.le_of_ble_eq_true rfl, Nat.le_of_ble_eq_true rfl⟩ ?_
  obtain ⟨y380, e_y380⟩ : ∃ z, lowN (ww >>> ((nI 3) &&& 31)) 8 = z := ⟨_, rfl⟩
  have h_y380 : y380 < 8 := by rw [← e_y380]; exact lowN_lt _ (by decide)
  refine lv_as (y := nI y380) (congrArg nI e_y380) ?_
  refine lv_iload hx hb dL_law_383 (lv_at hl 0 rfl) ?_
  refine k_callVW (wr := [(a1, .inl (cI, 32, .inl sg)), (a2, .inl (cI, 32, .inl lq))]) (As := [.int (nI y371), .int (nI y380), .int (nI y359 - nI 1)]) (rest := []) ⟨hx, hb, hml, hown, hts⟩ (c_X0_space l D cI q sh sp ld nm tx ds ct co kg ks y371 y380 (nI y359 - nI 1) h_y371 h_y380 hv1 hv2 (k_D_tt (hD.sub [0, 1, 2, 3, 4, 5, 6, 7, 8] (by decide) rfl))) (cwV 3 hts gL_law_X0_space rfl rfl rfl (by decide +kernel) ⟨Nat.le_of_ble_eq_true rfl, Nat.le_of_ble_eq_true rfl⟩) k_B_bl (k_B_of (hP.sub [0, 1, 2, 3, 4, 5, 6, 7, 8] rfl) hK) (va_recv hK hP (ci := 0) (q0 := 0) rfl rfl) rfl hl.1 rfl (Nat.le_of_ble_eq_true rfl) dL_law_385 ⟨Nat.le_of_ble_eq_true rfl, Nat.le_of_ble_eq_true rfl⟩ hP hD hS [9, 10] [0, 1, 2, 3, 4, 5, 6, 7, 8] rfl rfl (fun _ => rfl) (fun u_385 H locs hu_385 hP hD hS hsz hkp => ?_)
  have hP : va_P D vwCl (wl cI q a1 a2 sh (upd sp (y371 * 8 + y380) (nI y359 - nI 1)) ld nm tx ds ct co kg ks sg lq) H := hP.sub [2, 3, 4, 5, 6, 7, 8, 9, 10, 0, 1] rfl
  have hD : va_D (fun a : Nat => s.heap.size ≤ a) (wl cI q a1 a2 sh (upd sp (y371 * 8 + y380) (nI y359 - nI 1)) ld nm tx ds ct co kg ks sg lq) := hD.sub [2, 3, 4, 5, 6, 7, 8, 9, 10, 0, 1] (by decide) rfl
  refine lv_pop hx hb dL_law_388 rfl ?_
  refine lv_aload_n hx hb dL_law_389 rfl (lv_at hl 2 rfl) ?_
  refine lv_iload hx hb dL_law_390 (lv_at hl 8 rfl) ?_
  refine lv_bipush (v := nI 8) hx hb dL_law_392 (by decide) ?_
  refine k_callSi (As := [.int ww, .int (nI 8)]) (rest := [.ref (q 0)]) ⟨hx, hb, hml, hown, hts⟩ (c_L_low l ww 8 (by decide) (by decide)) (va_cwS 2 hts gL_law_L_low rfl rfl rfl (by decide +kernel) ⟨Nat.le_of_ble_eq_true rfl, Nat.le_of_ble_eq_true rfl⟩) k_bl_tt (fun _ _ _ => trivial) rfl hl.1 rfl (Nat.le_of_ble_eq_true rfl) dL_law_394 ⟨Nat.le_of_ble_eq_true rfl, Nat.le_of_ble_eq_true rfl⟩ ?_
  refine lv_as (y := nI y371) (congrArg nI e_y371) ?_
  refine lv_iload hx hb dL_law_397 (lv_at hl 8 rfl) ?_
  refine lv_iconst (v := nI 3) hx hb dL_law_399 (by decide) ?_
  refine lv_ishr hx hb dL_law_400 ?_
  refine lv_bipush (v := nI 8) hx hb dL_law_401 (by decide) ?_
  refine k_callSi (As := [.int (ww >>> ((nI 3) &&& 31)), .int (nI 8)]) (rest := [.int (nI y371), .ref (q 0)]) ⟨hx, hb, hml, hown, hts⟩ (c_L_low l (ww >>> ((nI 3) &&& 31)) 8 (by decide) (by decide)) (va_cwS 2 hts gL_law_L_low rfl rfl rfl (by decide +kernel) ⟨Nat.le_of_ble_eq_true rfl, Nat.le_of_ble_eq_true rfl⟩) k_bl_tt (fun _ _ _ => trivial) rfl hl.1 rfl (Nat.le_of_ble_eq_true rfl) dL_law_403 ⟨Nat.le_of_ble_eq_true rfl, Nat.le_of_ble_eq_true rfl⟩ ?_
  refine lv_as (y := nI y380) (congrArg nI e_y380) ?_
  refine lv_iload hx hb dL_law_406 (lv_at hl 0 rfl) ?_
  refine k_callVW (wr := [(a1, .inl (cI, 32, .inl sg)), (a2, .inl (cI, 32, .inl lq))]) (As := [.int (nI y371), .int (nI y380), .int (nI y359 - nI 1)]) (rest := []) ⟨hx, hb, hml, hown, hts⟩ (c_X0_space l D cI q sh (upd sp (y371 * 8 + y380) (nI y359 - nI 1)) ld nm tx ds ct co kg ks y371 y380 (nI y359 - nI 1) h_y371 h_y380 hv1 hv2 (k_D_tt (hD.sub [0, 1, 2, 3, 4, 5, 6, 7, 8] (by decide) rfl))) (cwV 3 hts gL_law_X0_space rfl rfl rfl (by decide +kernel) ⟨Nat.le_of_ble_eq_true rfl, Nat.le_of_ble_eq_true rfl⟩) k_B_bl (k_B_of (hP.sub [0, 1, 2, 3, 4, 5, 6, 7, 8] rfl) hK) (va_recv hK hP (ci := 0) (q0 := 0) rfl rfl) rfl hl.1 rfl (Nat.le_of_ble_eq_true rfl) dL_law_408 ⟨Nat.le_of_ble_eq_true rfl, Nat.le_of_ble_eq_true rfl⟩ hP hD hS [9, 10] [0, 1, 2, 3, 4, 5, 6, 7, 8] rfl rfl (fun _ => rfl) (fun u_408 H locs hu_408 hP hD hS hsz hkp => ?_)
  have hP : va_P D vwCl (wl cI q a1 a2 sh (upd (upd sp (y371 * 8 + y380) (nI y359 - nI 1)) (y371 * 8 + y380) (nI y359 - nI 1)) ld nm tx ds ct co kg ks sg lq) H := hP.sub [2, 3, 4, 5, 6, 7, 8, 9, 10, 0, 1] rfl
  have hD : va_D (fun a : Nat => s.heap.size ≤ a) (wl cI q a1 a2 sh (upd (upd sp (y371 * 8 + y380) (nI y359 - nI 1)) (y371 * 8 + y380) (nI y359 - nI 1)) ld nm tx ds ct co kg ks sg lq) := hD.sub [2, 3, 4, 5, 6, 7, 8, 9, 10, 0, 1] (by decide) rfl
  refine lv_as (y := nI y359 - nI 1) (pk_us) ?_
  refine lv_iload hx hb dL_law_411 (lv_at hl 0 rfl) ?_
  refine n_icmp_ne_mm (tgt := 420) hx hb dL_law_413 (by decide) ?_
  refine lv_iconst (v := nI 1) hx hb dL_law_416 (by decide) ?_
  refine lv_goto (tgt := 421) hx hb dL_law_417 (by decide) ?_
  refine lv_istore (lv' := [(15, .int (nI 1)), (16, .int (nI y359 - nI 1)), (0, .ref b), (1, .ref (q 0)), (2, .ref a1), (3, .ref a2), (4, .long co), (6, .int (nI turn)), (7, .int vv), (8, .int ww)]) hx hb dL_law_421 hl (by decide) rfl (fun ls hl => ?_)
  refine lv_goto (tgt := 700) hx hb dL_law_423 (by decide) ?_
  exact hk _ _ _ _ (lqI_mk hR hP hD hS) (lv_sub hl [2, 3, 4, 5, 6, 7, 8, 9, 0] rfl)
set_option maxHeartbeats 4000000 in
set_option maxRecDepth 100000 in
theorem lb_lead {p : Program} {l : Launch} {e : Env} {s : State} {m : MethodId} {below : List Frame} {meth : Method} {c : Code} {b L : Nat} {xs : Nat → Int32} {D : va_G} {cI : ClassId} {q : Nat → Nat} {a1 a2 : Nat} {co : Int64} {H : Heap} {locs : List Loc} {ls : Array Slot} {turn : Nat} {vv ww : Int32} (hC : lqC p s m meth c b L xs D cI) {p0 x0 k t : Nat} (hp : p0 < 8) (hx0 : x0 < 4) (hk1 : 1 ≤ k) (hk5 : k ≤ 5) (htk : t < 8 ^ k) (hI : lqI D cI q a1 a2 co s H locs) (hl : lv_has ls 24 (lqN b q a1 a2 co turn vv ww p0 x0 k t)) (hk : ∀ (H : Heap) (locs : List Loc) (ls : Array Slot) (co : Int64), lqI D cI q a1 a2 co s H locs → lv_has ls 24 (lqM b q a1 a2 co turn vv ww) → W p l e room_1 s m #[Value.ref b] below meth c H locs 96 1076 (lw_Z below #[Value.ref b] s) (F0 m 700 ls [])) : W p l e room_1 s m #[Value.ref b] below meth c H locs 96 1076 (lw_Z below #[Value.ref b] s) (F0 m 433 ls []) := by
  obtain ⟨C0, hK, hL⟩ := id hC
  obtain ⟨hx, hb, hr, hml, hown, hts0, hX, hbl, hlocks, hgv⟩ := id C0
  have hts : ∀ w ∈ wsL_law, w.before #[Value.ref b] s = true := fun w h => hts0 w (wsL_law_in w h)
  have hown : s.vm.findClass RL = some m.cls := hown
  have hbA : ¬ (fun a : Nat => s.heap.size ≤ a) b := Nat.not_le.mpr hbl
  obtain ⟨sh, sp, ld, nm, tx, ds, ct, kg, ks, sg, lq, T, K, Ld, NT, NK, hR, hP, hD, hS⟩ := hI
  have hl : lv_has ls 24 [(0, .ref b), (1, .ref (q 0)), (2, .ref a1), (3, .ref a2), (4, .long co), (6, .int (nI turn)), (7, .int vv), (8, .int ww), (15, .int (nI 1)), (10, .int (nI p0)), (11, .int (nI x0)), (12, .int (nI (p0 * 4 + x0))), (13, .int (nI k)), (14, .int (nI t))] := hl
  refine lv_iload hx hb dL_law_433 (lv_at hl 7 rfl) ?_
  refine lv_bipush (v := nI 6) hx hb dL_law_435 (by decide) ?_
  refine lv_ishr hx hb dL_law_437 ?_
  refine lv_bipush (v := nI 9) hx hb dL_law_438 (by decide) ?_
  refine k_callSi (As := [.int (ww >>> ((nI 6) &&& 31)), .int (nI 9)]) (rest := []) ⟨hx, hb, hml, hown, hts⟩ (c_L_low l (ww >>> ((nI 6) &&& 31)) 9 (by decide) (by decide)) (va_cwS 2 hts gL_law_L_low rfl rfl rfl (by decide +kernel) ⟨Nat.le_of_ble_eq_true rfl, Nat.le_of_ble_eq_true rfl⟩) k_bl_tt (fun _ _ _ => trivial) rfl hl.1 rfl (Nat.le_of_ble_eq_true rfl) dL_law_440 ⟨Nat.le_of_ble_eq_true rfl, Nat.le_of_ble_eq_true rfl⟩ ?_
  obtain ⟨y440, e_y440⟩ : ∃ z, lowN (ww >>> ((nI 6) &&& 31)) 9 = z := ⟨_, rfl⟩
  have h_y440 : y440 < 9 := by rw [← e_y440]; exact lowN_lt _ (by decide)
  refine lv_as (y := nI y440) (congrArg nI e_y440) ?_
  refine lv_iconst (v := nI 1) hx hb dL_law_443 (by decide) ?_
  refine lv_isub hx hb dL_law_444 ?_
  obtain ⟨a, ha8, ea⟩ : ∃ a, a ≤ 8 ∧ nI y440 - nI 1 = ix a := ⟨_, by split <;> omega, ld_rg y440 h_y440⟩
  refine lv_as (y := ix a) (ea) ?_
  refine lv_istore (lv' := [(16, .int (ix a)), (0, .ref b), (1, .ref (q 0)), (2, .ref a1), (3, .ref a2), (4, .long co), (6, .int (nI turn)), (7, .int vv), (8, .int ww), (15, .int (nI 1)), (10, .int (nI p0)), (11, .int (nI x0)), (12, .int (nI (p0 * 4 + x0))), (13, .int (nI k)), (14, .int (nI t))]) hx hb dL_law_445 hl (by decide) rfl (fun ls hl => ?_)
  refine lv_aload_n hx hb dL_law_447 rfl (lv_at hl 2 rfl) ?_
  refine lv_iload hx hb dL_law_448 (lv_at hl 10 rfl) ?_
  refine lv_iload hx hb dL_law_450 (lv_at hl 11 rfl) ?_
  refine lv_iload hx hb dL_law_452 (lv_at hl 0 rfl) ?_
  refine k_callVW (wr := [(a1, .inl (cI, 32, .inl sg)), (a2, .inl (cI, 32, .inl lq))]) (As := [.int (nI p0), .int (nI x0), .int (ix a)]) (rest := []) ⟨hx, hb, hml, hown, hts⟩ (c_X0_lead l D cI q sh sp ld nm tx ds ct co kg ks p0 x0 hp hx0 a ha8 (k_D_tt (hD.sub [0, 1, 2, 3, 4, 5, 6, 7, 8] (by decide) rfl))) (cwV 3 hts gL_law_X0_lead rfl rfl rfl (by decide +kernel) ⟨Nat.le_of_ble_eq_true rfl, Nat.le_of_ble_eq_true rfl⟩) k_B_bl (k_B_of (hP.sub [0, 1, 2, 3, 4, 5, 6, 7, 8] rfl) hK) (va_recv hK hP (ci := 0) (q0 := 0) rfl rfl) rfl hl.1 rfl (Nat.le_of_ble_eq_true rfl) dL_law_454 ⟨Nat.le_of_ble_eq_true rfl, Nat.le_of_ble_eq_true rfl⟩ hP hD hS [9, 10] [0, 1, 2, 3, 4, 5, 6, 7, 8] rfl rfl (fun _ => rfl) (fun u_454 H locs hu_454 hP hD hS hsz hkp => ?_)
  have hP : va_P D vwCl (wl cI q a1 a2 sh sp (upd ld (p0 * 4 + x0) (ix a)) nm tx ds ct co (nI 0) ks sg lq) H := hP.sub [2, 3, 4, 5, 6, 7, 8, 9, 10, 0, 1] rfl
  have hD : va_D (fun a : Nat => s.heap.size ≤ a) (wl cI q a1 a2 sh sp (upd ld (p0 * 4 + x0) (ix a)) nm tx ds ct co (nI 0) ks sg lq) := hD.sub [2, 3, 4, 5, 6, 7, 8, 9, 10, 0, 1] (by decide) rfl
  refine lv_as (y := ix (Ld (p0 * 4 + x0))) ((hR.hLd _ (by omega)).2) ?_
  refine lv_aload_n hx hb dL_law_457 rfl (lv_at hl 4 rfl) ?_
  refine lv_iload hx hb dL_law_458 (lv_at hl 12 rfl) ?_
  refine n_iald hx hb hK hP 10 0 rfl rfl (k := (p0 * 4 + x0)) (by omega) (Nat.le_of_ble_eq_true rfl) dL_law_460 ?_
  refine lv_as (y := ix (Ld (p0 * 4 + x0))) (hR.hlq _ (by omega)) ?_
  refine n_icmp_ne_mm (tgt := 468) hx hb dL_law_461 (by decide) ?_
  refine lv_iconst (v := nI 1) hx hb dL_law_464 (by decide) ?_
  refine lv_goto (tgt := 469) hx hb dL_law_465 (by decide) ?_
  refine lv_istore (lv' := [(15, .int (nI 1)), (16, .int (ix a)), (0, .ref b), (1, .ref (q 0)), (2, .ref a1), (3, .ref a2), (4, .long co), (6, .int (nI turn)), (7, .int vv), (8, .int ww), (10, .int (nI p0)), (11, .int (nI x0)), (12, .int (nI (p0 * 4 + x0))), (13, .int (nI k)), (14, .int (nI t))]) hx hb dL_law_469 hl (by decide) rfl (fun ls hl => ?_)
  refine lv_aload_n hx hb dL_law_471 rfl (lv_at hl 5 rfl) ?_
  refine lv_iload hx hb dL_law_472 (lv_at hl 12 rfl) ?_
  refine lv_iload hx hb dL_law_474 (lv_at hl 1 rfl) ?_
  refine n_iast hx hb hK hP hD hS 10 0 rfl rfl (k := (p0 * 4 + x0)) (by omega) (Nat.le_of_ble_eq_true rfl) dL_law_476 (fun H locs hP hD hS => ?_)
  have hP : va_P D vwCl (wl cI q a1 a2 sh sp (upd ld (p0 * 4 + x0) (ix a)) nm tx ds ct co (nI 0) ks sg (upd lq (p0 * 4 + x0) (ix a))) H := hP
  have hD : va_D (fun a : Nat => s.heap.size ≤ a) (wl cI q a1 a2 sh sp (upd ld (p0 * 4 + x0) (ix a)) nm tx ds ct co (nI 0) ks sg (upd lq (p0 * 4 + x0) (ix a))) := hD
  refine lv_goto (tgt := 700) hx hb dL_law_477 (by decide) ?_
  exact hk _ _ _ _ (lqI_mk (hR.lead ha8) hP hD hS) (lv_sub hl [2, 3, 4, 5, 6, 7, 8, 9, 0] rfl)
set_option maxHeartbeats 4000000 in
set_option maxRecDepth 100000 in
theorem lb_name {p : Program} {l : Launch} {e : Env} {s : State} {m : MethodId} {below : List Frame} {meth : Method} {c : Code} {b L : Nat} {xs : Nat → Int32} {D : va_G} {cI : ClassId} {q : Nat → Nat} {a1 a2 : Nat} {co : Int64} {H : Heap} {locs : List Loc} {ls : Array Slot} {turn : Nat} {vv ww : Int32} (hC : lqC p s m meth c b L xs D cI) {p0 x0 k t : Nat} (hp : p0 < 8) (hx0 : x0 < 4) (hk1 : 1 ≤ k) (hk5 : k ≤ 5) (htk : t < 8 ^ k) (hI : lqI D cI q a1 a2 co s H locs) (hl : lv_has ls 24 (lqN b q a1 a2 co turn vv ww p0 x0 k t)) (hk : ∀ (H : Heap) (locs : List Loc) (ls : Array Slot) (co : Int64), lqI D cI q a1 a2 co s H locs → lv_has ls 24 (lqM b q a1 a2 co turn vv ww) → W p l e room_1 s m #[Value.ref b] below meth c H locs 96 1076 (lw_Z below #[Value.ref b] s) (F0 m 700 ls [])) : W p l e room_1 s m #[Value.ref b] below meth c H locs 96 1076 (lw_Z below #[Value.ref b] s) (F0 m 487 ls []) := by
  obtain ⟨C0, hK, hL⟩ := id hC
  obtain ⟨hx, hb, hr, hml, hown, hts0, hX, hbl, hlocks, hgv⟩ := id C0
  have hts : ∀ w ∈ wsL_law, w.before #[Value.ref b] s = true := fun w h => hts0 w (wsL_law_in w h)
  have hown : s.vm.findClass RL = some m.cls := hown
  have hbA : ¬ (fun a : Nat => s.heap.size ≤ a) b := Nat.not_le.mpr hbl
  obtain ⟨sh, sp, ld, nm, tx, ds, ct, kg, ks, sg, lq, T, K, Ld, NT, NK, hR, hP, hD, hS⟩ := hI
  have hl : lv_has ls 24 [(0, .ref b), (1, .ref (q 0)), (2, .ref a1), (3, .ref a2), (4, .long co), (6, .int (nI turn)), (7, .int vv), (8, .int ww), (15, .int (nI 1)), (10, .int (nI p0)), (11, .int (nI x0)), (12, .int (nI (p0 * 4 + x0))), (13, .int (nI k)), (14, .int (nI t))] := hl
  refine lv_aload_n hx hb dL_law_487 rfl (lv_at hl 1 rfl) ?_
  refine lv_iload hx hb dL_law_488 (lv_at hl 9 rfl) ?_
  refine lv_iload hx hb dL_law_490 (lv_at hl 13 rfl) ?_
  refine lv_iload hx hb dL_law_492 (lv_at hl 12 rfl) ?_
  refine k_callVW (wr := [(a1, .inl (cI, 32, .inl sg)), (a2, .inl (cI, 32, .inl lq))]) (As := [.int (nI p0), .int (nI t), .int (nI k)]) (rest := []) ⟨hx, hb, hml, hown, hts⟩ (c_X0_name l D cI q sh sp ld nm tx ds ct co kg ks p0 hp t k hk1 hk5 htk (k_D_tt (hD.sub [0, 1, 2, 3, 4, 5, 6, 7, 8] (by decide) rfl))) (cwV 3 hts gL_law_X0_name rfl rfl rfl (by decide +kernel) ⟨Nat.le_of_ble_eq_true rfl, Nat.le_of_ble_eq_true rfl⟩) k_B_bl (k_B_of (hP.sub [0, 1, 2, 3, 4, 5, 6, 7, 8] rfl) hK) (va_recv hK hP (ci := 0) (q0 := 0) rfl rfl) rfl hl.1 rfl (Nat.le_of_ble_eq_true rfl) dL_law_494 ⟨Nat.le_of_ble_eq_true rfl, Nat.le_of_ble_eq_true rfl⟩ hP hD hS [9, 10] [0, 1, 2, 3, 4, 5, 6, 7, 8] rfl rfl (fun _ => rfl) (fun u_494 H locs hu_494 hP hD hS hsz hkp => ?_)
  have hP : va_P D vwCl (wl cI q a1 a2 sh sp ld (upd nm p0 (nI (32768 * k + t))) tx ds ct co (nI 0) ks sg lq) H := hP.sub [2, 3, 4, 5, 6, 7, 8, 9, 10, 0, 1] rfl
  have hD : va_D (fun a : Nat => s.heap.size ≤ a) (wl cI q a1 a2 sh sp ld (upd nm p0 (nI (32768 * k + t))) tx ds ct co (nI 0) ks sg lq) := hD.sub [2, 3, 4, 5, 6, 7, 8, 9, 10, 0, 1] (by decide) rfl
  have hR := hR.name (g := p0) hk5 htk
  refine lv_aload_n hx hb dL_law_497 rfl (lv_at hl 1 rfl) ?_
  refine lv_iload hx hb dL_law_498 (lv_at hl 9 rfl) ?_
  refine lv_iload hx hb dL_law_500 (lv_at hl 13 rfl) ?_
  refine lv_iload hx hb dL_law_502 (lv_at hl 12 rfl) ?_
  refine k_callVW (wr := [(a1, .inl (cI, 32, .inl sg)), (a2, .inl (cI, 32, .inl lq))]) (As := [.int (nI p0), .int (nI t), .int (nI k)]) (rest := []) ⟨hx, hb, hml, hown, hts⟩ (c_X0_walk l D cI q sh sp ld (upd nm p0 (nI (32768 * k + t))) tx ds ct co (nI 0) ks p0 hp t k hk1 hk5 htk _ _ hR.hG _ hR.hLd hR.1 _ _ hR.2.2.1 hR.2.2.2.2 (k_D_tt (hD.sub [0, 1, 2, 3, 4, 5, 6, 7, 8] (by decide) rfl))) (cwV 3 hts gL_law_X0_walk rfl rfl rfl (by decide +kernel) ⟨Nat.le_of_ble_eq_true rfl, Nat.le_of_ble_eq_true rfl⟩) k_B_bl (k_B_of (hP.sub [0, 1, 2, 3, 4, 5, 6, 7, 8] rfl) hK) (va_recv hK hP (ci := 0) (q0 := 0) rfl rfl) rfl hl.1 rfl (Nat.le_of_ble_eq_true rfl) dL_law_504 ⟨Nat.le_of_ble_eq_true rfl, Nat.le_of_ble_eq_true rfl⟩ hP hD hS [9, 10] [0, 1, 2, 3, 4, 5, 6, 7, 8] rfl rfl (fun _ => rfl) (fun u_504 H locs hu_504 hP hD hS hsz hkp => ?_)
  have hP : va_P D vwCl (wl cI q a1 a2 sh sp ld (upd nm p0 (nI (32768 * k + t))) tx ds ct co u_504.1 u_504.2 sg lq) H := hP.sub [2, 3, 4, 5, 6, 7, 8, 9, 10, 0, 1] rfl
  have hD : va_D (fun a : Nat => s.heap.size ≤ a) (wl cI q a1 a2 sh sp ld (upd nm p0 (nI (32768 * k + t))) tx ds ct co u_504.1 u_504.2 sg lq) := hD.sub [2, 3, 4, 5, 6, 7, 8, 9, 10, 0, 1] (by decide) rfl
  have hR := hR.walk hu_504
  refine lv_as (y := nI 0) (walk_here) ?_
  refine n_if_ne (tgt := 514) hx hb dL_law_507 (by decide) (by decide) (fun c_507 => absurd c_507 (by decide)) (fun _ => ?_)
  refine lv_iconst (v := nI 1) hx hb dL_law_510 (by decide) ?_
  refine lv_goto (tgt := 515) hx hb dL_law_511 (by decide) ?_
  refine lv_istore (lv' := [(15, .int (nI 1)), (0, .ref b), (1, .ref (q 0)), (2, .ref a1), (3, .ref a2), (4, .long co), (6, .int (nI turn)), (7, .int vv), (8, .int ww), (10, .int (nI p0)), (11, .int (nI x0)), (12, .int (nI (p0 * 4 + x0))), (13, .int (nI k)), (14, .int (nI t))]) hx hb dL_law_515 hl (by decide) rfl (fun ls hl => ?_)
  refine lv_goto (tgt := 700) hx hb dL_law_517 (by decide) ?_
  exact hk _ _ _ _ (lqI_mk hR hP hD hS) (lv_sub hl [1, 2, 3, 4, 5, 6, 7, 8, 0] rfl)
set_option maxHeartbeats 4000000 in
set_option maxRecDepth 100000 in
theorem lb_cut {p : Program} {l : Launch} {e : Env} {s : State} {m : MethodId} {below : List Frame} {meth : Method} {c : Code} {b L : Nat} {xs : Nat → Int32} {D : va_G} {cI : ClassId} {q : Nat → Nat} {a1 a2 : Nat} {co : Int64} {H : Heap} {locs : List Loc} {ls : Array Slot} {turn : Nat} {vv ww : Int32} (hC : lqC p s m meth c b L xs D cI) {p0 x0 k t : Nat} (hp : p0 < 8) (hx0 : x0 < 4) (hk1 : 1 ≤ k) (hk5 : k ≤ 5) (htk : t < 8 ^ k) (hI : lqI D cI q a1 a2 co s H locs) (hl : lv_has ls 24 (lqN b q a1 a2 co turn vv ww p0 x0 k t)) (hk : ∀ (H : Heap) (locs : List Loc) (ls : Array Slot) (co : Int64), lqI D cI q a1 a2 co s H locs → lv_has ls 24 (lqM b q a1 a2 co turn vv ww) → W p l e room_1 s m #[Value.ref b] below meth c H locs 96 1076 (lw_Z below #[Value.ref b] s) (F0 m 700 ls [])) : W p l e room_1 s m #[Value.ref b] below meth c H locs 96 1076 (lw_Z below #[Value.ref b] s) (F0 m 527 ls []) := by
  obtain ⟨C0, hK, hL⟩ := id hC
  obtain ⟨hx, hb, hr, hml, hown, hts0, hX, hbl, hlocks, hgv⟩ := id C0
  have hts : ∀ w ∈ wsL_law, w.before #[Value.ref b] s = true := fun w h => hts0 w (wsL_law_in w h)
  have hown : s.vm.findClass RL = some m.cls := hown
  have hbA : ¬ (fun a : Nat => s.heap.size ≤ a) b := Nat.not_le.mpr hbl
  obtain ⟨sh, sp, ld, nm, tx, ds, ct, kg, ks, sg, lq, T, K, Ld, NT, NK, hR, hP, hD, hS⟩ := hI
  have hl : lv_has ls 24 [(0, .ref b), (1, .ref (q 0)), (2, .ref a1), (3, .ref a2), (4, .long co), (6, .int (nI turn)), (7, .int vv), (8, .int ww), (15, .int (nI 1)), (10, .int (nI p0)), (11, .int (nI x0)), (12, .int (nI (p0 * 4 + x0))), (13, .int (nI k)), (14, .int (nI t))] := hl
  refine lv_aload_n hx hb dL_law_527 rfl (lv_at hl 1 rfl) ?_
  refine lv_iload hx hb dL_law_528 (lv_at hl 13 rfl) ?_
  refine lv_iload hx hb dL_law_530 (lv_at hl 12 rfl) ?_
  refine k_callVi (As := [.int (nI t), .int (nI k)]) (rest := []) ⟨hx, hb, hml, hown, hts⟩ (c_X0_textWidth l D cI q sh sp ld nm tx ds ct co kg ks t k hk1 hk5 htk) (cwV 2 hts gL_law_X0_textWidth rfl rfl rfl (by decide +kernel) ⟨Nat.le_of_ble_eq_true rfl, Nat.le_of_ble_eq_true rfl⟩) k_B_bl (k_B_of (hP.sub [0, 1, 2, 3, 4, 5, 6, 7, 8] rfl) hK) (va_recv hK hP (ci := 0) (q0 := 0) rfl rfl) rfl hl.1 rfl (Nat.le_of_ble_eq_true rfl) dL_law_532 ⟨Nat.le_of_ble_eq_true rfl, Nat.le_of_ble_eq_true rfl⟩ ?_
  refine lv_istore (lv' := [(16, .int (pwC (wdS sh) sp t k)), (0, .ref b), (1, .ref (q 0)), (2, .ref a1), (3, .ref a2), (4, .long co), (6, .int (nI turn)), (7, .int vv), (8, .int ww), (15, .int (nI 1)), (10, .int (nI p0)), (11, .int (nI x0)), (12, .int (nI (p0 * 4 + x0))), (13, .int (nI k)), (14, .int (nI t))]) hx hb dL_law_535 hl (by decide) rfl (fun ls hl => ?_)
  refine lv_iload hx hb dL_law_537 (lv_at hl 0 rfl) ?_
  refine lv_bipush (v := nI 30) hx hb dL_law_539 (by decide) ?_
  refine lv_icmp_gt (tgt := 628) hx hb dL_law_541 (by decide) (fun c_541 => ?_) (fun c_541 => ?_)
  · refine lv_goto (tgt := 700) hx hb dL_law_628 (by decide) ?_
    exact hk _ _ _ _ (lqI_mk hR hP hD hS) (lv_sub hl [1, 2, 3, 4, 5, 6, 7, 8, 9] rfl)
  · refine lv_aload_n hx hb dL_law_544 rfl (lv_at hl 2 rfl) ?_
    refine lv_iload hx hb dL_law_545 (lv_at hl 10 rfl) ?_
    refine lv_iload hx hb dL_law_547 (lv_at hl 11 rfl) ?_
    refine lv_iload hx hb dL_law_549 (lv_at hl 14 rfl) ?_
    refine lv_iload hx hb dL_law_551 (lv_at hl 13 rfl) ?_
    refine lv_iload hx hb dL_law_553 (lv_at hl 7 rfl) ?_
    refine lv_iconst (v := nI 4) hx hb dL_law_555 (by decide) ?_
    refine lv_ishr hx hb dL_law_556 ?_
    refine lv_bipush (v := nI 10) hx hb dL_law_557 (by decide) ?_
    refine k_callSi (As := [.int (vv >>> ((nI 4) &&& 31)), .int (nI 10)]) (rest := [.int (nI k), .int (nI t), .int (nI x0), .int (nI p0), .ref (q 0)]) ⟨hx, hb, hml, hown, hts⟩ (c_L_low l (vv >>> ((nI 4) &&& 31)) 10 (by decide) (by decide)) (va_cwS 2 hts gL_law_L_low rfl rfl rfl (by decide +kernel) ⟨Nat.le_of_ble_eq_true rfl, Nat.le_of_ble_eq_true rfl⟩) k_bl_tt (fun _ _ _ => trivial) rfl hl.1 rfl (Nat.le_of_ble_eq_true rfl) dL_law_559 ⟨Nat.le_of_ble_eq_true rfl, Nat.le_of_ble_eq_true rfl⟩ ?_
    obtain ⟨dd, e_dd⟩ : ∃ z, lowN (vv >>> ((nI 4) &&& 31)) 10 = z := ⟨_, rfl⟩
    have h_dd : dd < 10 := by rw [← e_dd]; exact lowN_lt _ (by decide)
    refine lv_as (y := nI dd) (congrArg nI e_dd) ?_
    refine k_callVW (wr := [(a1, .inl (cI, 32, .inl sg)), (a2, .inl (cI, 32, .inl lq))]) (As := [.int (nI p0), .int (nI x0), .int (nI t), .int (nI k), .int (nI dd)]) (rest := []) ⟨hx, hb, hml, hown, hts⟩ (c_X0_cut l D cI q sh sp ld nm tx ds ct co kg ks p0 x0 hp hx0 t k hk1 hk5 htk dd h_dd (pl_m1 (fa_of_nlt c_541)) (k_D_tt (hD.sub [0, 1, 2, 3, 4, 5, 6, 7, 8] (by decide) rfl))) (cwV 5 hts gL_law_X0_cut rfl rfl rfl (by decide +kernel) ⟨Nat.le_of_ble_eq_true rfl, Nat.le_of_ble_eq_true rfl⟩) k_B_bl (k_B_of (hP.sub [0, 1, 2, 3, 4, 5, 6, 7, 8] rfl) hK) (va_recv hK hP (ci := 0) (q0 := 0) rfl rfl) rfl hl.1 rfl (Nat.le_of_ble_eq_true rfl) dL_law_562 ⟨Nat.le_of_ble_eq_true rfl, Nat.le_of_ble_eq_true rfl⟩ hP hD hS [9, 10] [0, 1, 2, 3, 4, 5, 6, 7, 8] rfl rfl (fun _ => rfl) (fun u_562 H locs hu_562 hP hD hS hsz hkp => ?_)
    have hP : va_P D vwCl (wl cI q a1 a2 sh sp ld nm (upd tx (p0 * 4 + x0) (nI (32768 * k + t))) (upd ds (p0 * 4 + x0) (nI dd)) (engF sh ct (p0 * 4 + x0) t k) (co + (plF (pwC (wdS sh) sp t k)).toInt64) (nI 0) ks sg lq) H := hP.sub [2, 3, 4, 5, 6, 7, 8, 9, 10, 0, 1] rfl
    have hD : va_D (fun a : Nat => s.heap.size ≤ a) (wl cI q a1 a2 sh sp ld nm (upd tx (p0 * 4 + x0) (nI (32768 * k + t))) (upd ds (p0 * 4 + x0) (nI dd)) (engF sh ct (p0 * 4 + x0) t k) (co + (plF (pwC (wdS sh) sp t k)).toInt64) (nI 0) ks sg lq) := hD.sub [2, 3, 4, 5, 6, 7, 8, 9, 10, 0, 1] (by decide) rfl
    have hR := hR.cut (g := p0 * 4 + x0) (d := nI dd) (by omega) hk1 hk5 htk
    refine lv_istore (lv' := [(17, .int (plF (pwC (wdS sh) sp t k))), (16, .int (pwC (wdS sh) sp t k)), (0, .ref b), (1, .ref (q 0)), (2, .ref a1), (3, .ref a2), (4, .long co), (6, .int (nI turn)), (7, .int vv), (8, .int ww), (15, .int (nI 1)), (10, .int (nI p0)), (11, .int (nI x0)), (12, .int (nI (p0 * 4 + x0))), (13, .int (nI k)), (14, .int (nI t))]) hx hb dL_law_565 hl (by decide) rfl (fun ls hl => ?_)
    refine lv_lload hx hb dL_law_567 (lv_at hl 6 rfl) ?_
    refine lv_iload hx hb dL_law_569 (lv_at hl 0 rfl) ?_
    refine lv_i2l (v := (plF (pwC (wdS sh) sp t k)).toInt64) hx hb dL_law_571 rfl ?_
    refine lv_ladd hx hb dL_law_572 ?_
    refine lv_lstore (lv' := [(4, .long (co + ((plF (pwC (wdS sh) sp t k)).toInt64))), (17, .int (plF (pwC (wdS sh) sp t k))), (16, .int (pwC (wdS sh) sp t k)), (0, .ref b), (1, .ref (q 0)), (2, .ref a1), (3, .ref a2), (6, .int (nI turn)), (7, .int vv), (8, .int ww), (15, .int (nI 1)), (10, .int (nI p0)), (11, .int (nI x0)), (12, .int (nI (p0 * 4 + x0))), (13, .int (nI k)), (14, .int (nI t))]) hx hb dL_law_573 hl (by decide) rfl (fun ls hl => ?_)
    refine lv_aload_n hx hb dL_law_575 rfl (lv_at hl 5 rfl) ?_
    refine lv_iload hx hb dL_law_576 (lv_at hl 13 rfl) ?_
    refine lv_iconst (v := nI 1) hx hb dL_law_578 (by decide) ?_
    refine n_iast hx hb hK hP hD hS 9 0 rfl rfl (k := (p0 * 4 + x0)) (by omega) (Nat.le_of_ble_eq_true rfl) dL_law_579 (fun H locs hP hD hS => ?_)
    have hP : va_P D vwCl (wl cI q a1 a2 sh sp ld nm (upd tx (p0 * 4 + x0) (nI (32768 * k + t))) (upd ds (p0 * 4 + x0) (nI dd)) (engF sh ct (p0 * 4 + x0) t k) (co + (plF (pwC (wdS sh) sp t k)).toInt64) (nI 0) ks (upd sg (p0 * 4 + x0) (nI 1)) lq) H := hP
    have hD : va_D (fun a : Nat => s.heap.size ≤ a) (wl cI q a1 a2 sh sp ld nm (upd tx (p0 * 4 + x0) (nI (32768 * k + t))) (upd ds (p0 * 4 + x0) (nI dd)) (engF sh ct (p0 * 4 + x0) t k) (co + (plF (pwC (wdS sh) sp t k)).toInt64) (nI 0) ks (upd sg (p0 * 4 + x0) (nI 1)) lq) := hD
    refine lv_iload hx hb dL_law_580 (lv_at hl 1 rfl) ?_
    refine lv_iload hx hb dL_law_582 (lv_at hl 2 rfl) ?_
    refine lv_bipush (v := nI 10) hx hb dL_law_584 (by decide) ?_
    refine lv_icmp_gt (tgt := 593) hx hb dL_law_586 (by decide) (fun c_586 => ?_) (fun c_586 => ?_)
    · refine lv_iload hx hb dL_law_593 (lv_at hl 2 rfl) ?_
      refine lv_bipush (v := nI 20) hx hb dL_law_595 (by decide) ?_
      refine lv_icmp_gt (tgt := 605) hx hb dL_law_597 (by decide) (fun c_597 => ?_) (fun c_597 => ?_)
      · refine lv_bipush (v := nI 10) hx hb dL_law_605 (by decide) ?_
        refine lv_as (y := plF (pwC (wdS sh) sp t k)) ((by rw [plF, if_pos c_586, if_pos c_597, if_neg c_541] : plF (pwC (wdS sh) sp t k) = nI 10).symm) ?_
        refine n_icmp_ne_mm (tgt := 625) hx hb dL_law_607 (by decide) ?_
        refine lv_aload_n hx hb dL_law_610 rfl (lv_at hl 4 rfl) ?_
        refine lv_iload hx hb dL_law_611 (lv_at hl 11 rfl) ?_
        refine lv_iload hx hb dL_law_613 (lv_at hl 12 rfl) ?_
        refine k_callVi (As := [.int (nI p0), .int (nI x0)]) (rest := []) ⟨hx, hb, hml, hown, hts⟩ (c_X0_isOld l D cI q sh sp ld nm (upd tx (p0 * 4 + x0) (nI (32768 * k + t))) (upd ds (p0 * 4 + x0) (nI dd)) (engF sh ct (p0 * 4 + x0) t k) (co + (plF (pwC (wdS sh) sp t k)).toInt64) (nI 0) ks p0 x0 hp hx0 _ _ hR.hG) (cwV 2 hts gL_law_X0_isOld rfl rfl rfl (by decide +kernel) ⟨Nat.le_of_ble_eq_true rfl, Nat.le_of_ble_eq_true rfl⟩) k_B_bl (k_B_of (hP.sub [0, 1, 2, 3, 4, 5, 6, 7, 8] rfl) hK) (va_recv hK hP (ci := 0) (q0 := 0) rfl rfl) rfl hl.1 rfl (Nat.le_of_ble_eq_true rfl) dL_law_615 ⟨Nat.le_of_ble_eq_true rfl, Nat.le_of_ble_eq_true rfl⟩ ?_
        refine lv_as (y := nI 0) (old_cut) ?_
        refine n_if_ne (tgt := 625) hx hb dL_law_618 (by decide) (by decide) (fun c_618 => absurd c_618 (by decide)) (fun _ => ?_)
        refine lv_iconst (v := nI 1) hx hb dL_law_621 (by decide) ?_
        refine lv_goto (tgt := 626) hx hb dL_law_622 (by decide) ?_
        refine lv_istore (lv' := [(15, .int (nI 1)), (4, .long (co + ((plF (pwC (wdS sh) sp t k)).toInt64))), (17, .int (plF (pwC (wdS sh) sp t k))), (16, .int (pwC (wdS sh) sp t k)), (0, .ref b), (1, .ref (q 0)), (2, .ref a1), (3, .ref a2), (6, .int (nI turn)), (7, .int vv), (8, .int ww), (10, .int (nI p0)), (11, .int (nI x0)), (12, .int (nI (p0 * 4 + x0))), (13, .int (nI k)), (14, .int (nI t))]) hx hb dL_law_626 hl (by decide) rfl (fun ls hl => ?_)
        refine lv_goto (tgt := 700) hx hb dL_law_628 (by decide) ?_
        exact hk _ _ _ _ (lqI_mk hR hP hD hS) (lv_sub hl [4, 5, 6, 7, 1, 8, 9, 10, 0] rfl)
      · refine lv_bipush (v := nI 7) hx hb dL_law_600 (by decide) ?_
        refine lv_goto (tgt := 607) hx hb dL_law_602 (by decide) ?_
        refine lv_as (y := plF (pwC (wdS sh) sp t k)) ((by rw [plF, if_pos c_586, if_neg c_597] : plF (pwC (wdS sh) sp t k) = nI 7).symm) ?_
        refine n_icmp_ne_mm (tgt := 625) hx hb dL_law_607 (by decide) ?_
        refine lv_aload_n hx hb dL_law_610 rfl (lv_at hl 4 rfl) ?_
        refine lv_iload hx hb dL_law_611 (lv_at hl 11 rfl) ?_
        refine lv_iload hx hb dL_law_613 (lv_at hl 12 rfl) ?_
        refine k_callVi (As := [.int (nI p0), .int (nI x0)]) (rest := []) ⟨hx, hb, hml, hown, hts⟩ (c_X0_isOld l D cI q sh sp ld nm (upd tx (p0 * 4 + x0) (nI (32768 * k + t))) (upd ds (p0 * 4 + x0) (nI dd)) (engF sh ct (p0 * 4 + x0) t k) (co + (plF (pwC (wdS sh) sp t k)).toInt64) (nI 0) ks p0 x0 hp hx0 _ _ hR.hG) (cwV 2 hts gL_law_X0_isOld rfl rfl rfl (by decide +kernel) ⟨Nat.le_of_ble_eq_true rfl, Nat.le_of_ble_eq_true rfl⟩) k_B_bl (k_B_of (hP.sub [0, 1, 2, 3, 4, 5, 6, 7, 8] rfl) hK) (va_recv hK hP (ci := 0) (q0 := 0) rfl rfl) rfl hl.1 rfl (Nat.le_of_ble_eq_true rfl) dL_law_615 ⟨Nat.le_of_ble_eq_true rfl, Nat.le_of_ble_eq_true rfl⟩ ?_
        refine lv_as (y := nI 0) (old_cut) ?_
        refine n_if_ne (tgt := 625) hx hb dL_law_618 (by decide) (by decide) (fun c_618 => absurd c_618 (by decide)) (fun _ => ?_)
        refine lv_iconst (v := nI 1) hx hb dL_law_621 (by decide) ?_
        refine lv_goto (tgt := 626) hx hb dL_law_622 (by decide) ?_
        refine lv_istore (lv' := [(15, .int (nI 1)), (4, .long (co + ((plF (pwC (wdS sh) sp t k)).toInt64))), (17, .int (plF (pwC (wdS sh) sp t k))), (16, .int (pwC (wdS sh) sp t k)), (0, .ref b), (1, .ref (q 0)), (2, .ref a1), (3, .ref a2), (6, .int (nI turn)), (7, .int vv), (8, .int ww), (10, .int (nI p0)), (11, .int (nI x0)), (12, .int (nI (p0 * 4 + x0))), (13, .int (nI k)), (14, .int (nI t))]) hx hb dL_law_626 hl (by decide) rfl (fun ls hl => ?_)
        refine lv_goto (tgt := 700) hx hb dL_law_628 (by decide) ?_
        exact hk _ _ _ _ (lqI_mk hR hP hD hS) (lv_sub hl [4, 5, 6, 7, 1, 8, 9, 10, 0] rfl)
    · refine lv_iconst (v := nI 4) hx hb dL_law_589 (by decide) ?_
      refine lv_goto (tgt := 607) hx hb dL_law_590 (by decide) ?_
      refine lv_as (y := plF (pwC (wdS sh) sp t k)) ((by rw [plF, if_neg c_586] : plF (pwC (wdS sh) sp t k) = nI 4).symm) ?_
      refine n_icmp_ne_mm (tgt := 625) hx hb dL_law_607 (by decide) ?_
      refine lv_aload_n hx hb dL_law_610 rfl (lv_at hl 4 rfl) ?_
      refine lv_iload hx hb dL_law_611 (lv_at hl 11 rfl) ?_
      refine lv_iload hx hb dL_law_613 (lv_at hl 12 rfl) ?_
      refine k_callVi (As := [.int (nI p0), .int (nI x0)]) (rest := []) ⟨hx, hb, hml, hown, hts⟩ (c_X0_isOld l D cI q sh sp ld nm (upd tx (p0 * 4 + x0) (nI (32768 * k + t))) (upd ds (p0 * 4 + x0) (nI dd)) (engF sh ct (p0 * 4 + x0) t k) (co + (plF (pwC (wdS sh) sp t k)).toInt64) (nI 0) ks p0 x0 hp hx0 _ _ hR.hG) (cwV 2 hts gL_law_X0_isOld rfl rfl rfl (by decide +kernel) ⟨Nat.le_of_ble_eq_true rfl, Nat.le_of_ble_eq_true rfl⟩) k_B_bl (k_B_of (hP.sub [0, 1, 2, 3, 4, 5, 6, 7, 8] rfl) hK) (va_recv hK hP (ci := 0) (q0 := 0) rfl rfl) rfl hl.1 rfl (Nat.le_of_ble_eq_true rfl) dL_law_615 ⟨Nat.le_of_ble_eq_true rfl, Nat.le_of_ble_eq_true rfl⟩ ?_
      refine lv_as (y := nI 0) (old_cut) ?_
      refine n_if_ne (tgt := 625) hx hb dL_law_618 (by decide) (by decide) (fun c_618 => absurd c_618 (by decide)) (fun _ => ?_)
      refine lv_iconst (v := nI 1) hx hb dL_law_621 (by decide) ?_
      refine lv_goto (tgt := 626) hx hb dL_law_622 (by decide) ?_
      refine lv_istore (lv' := [(15, .int (nI 1)), (4, .long (co + ((plF (pwC (wdS sh) sp t k)).toInt64))), (17, .int (plF (pwC (wdS sh) sp t k))), (16, .int (pwC (wdS sh) sp t k)), (0, .ref b), (1, .ref (q 0)), (2, .ref a1), (3, .ref a2), (6, .int (nI turn)), (7, .int vv), (8, .int ww), (10, .int (nI p0)), (11, .int (nI x0)), (12, .int (nI (p0 * 4 + x0))), (13, .int (nI k)), (14, .int (nI t))]) hx hb dL_law_626 hl (by decide) rfl (fun ls hl => ?_)
      refine lv_goto (tgt := 700) hx hb dL_law_628 (by decide) ?_
      exact hk _ _ _ _ (lqI_mk hR hP hD hS) (lv_sub hl [4, 5, 6, 7, 1, 8, 9, 10, 0] rfl)
set_option maxHeartbeats 4000000 in
set_option maxRecDepth 100000 in
theorem lb_remove {p : Program} {l : Launch} {e : Env} {s : State} {m : MethodId} {below : List Frame} {meth : Method} {c : Code} {b L : Nat} {xs : Nat → Int32} {D : va_G} {cI : ClassId} {q : Nat → Nat} {a1 a2 : Nat} {co : Int64} {H : Heap} {locs : List Loc} {ls : Array Slot} {turn : Nat} {vv ww : Int32} (hC : lqC p s m meth c b L xs D cI) {p0 x0 k t : Nat} (hp : p0 < 8) (hx0 : x0 < 4) (hk1 : 1 ≤ k) (hk5 : k ≤ 5) (htk : t < 8 ^ k) (hI : lqI D cI q a1 a2 co s H locs) (hl : lv_has ls 24 (lqN b q a1 a2 co turn vv ww p0 x0 k t)) (hk : ∀ (H : Heap) (locs : List Loc) (ls : Array Slot) (co : Int64), lqI D cI q a1 a2 co s H locs → lv_has ls 24 (lqM b q a1 a2 co turn vv ww) → W p l e room_1 s m #[Value.ref b] below meth c H locs 96 1076 (lw_Z below #[Value.ref b] s) (F0 m 700 ls [])) : W p l e room_1 s m #[Value.ref b] below meth c H locs 96 1076 (lw_Z below #[Value.ref b] s) (F0 m 638 ls []) := by
  obtain ⟨C0, hK, hL⟩ := id hC
  obtain ⟨hx, hb, hr, hml, hown, hts0, hX, hbl, hlocks, hgv⟩ := id C0
  have hts : ∀ w ∈ wsL_law, w.before #[Value.ref b] s = true := fun w h => hts0 w (wsL_law_in w h)
  have hown : s.vm.findClass RL = some m.cls := hown
  have hbA : ¬ (fun a : Nat => s.heap.size ≤ a) b := Nat.not_le.mpr hbl
  obtain ⟨sh, sp, ld, nm, tx, ds, ct, kg, ks, sg, lq, T, K, Ld, NT, NK, hR, hP, hD, hS⟩ := hI
  have hl : lv_has ls 24 [(0, .ref b), (1, .ref (q 0)), (2, .ref a1), (3, .ref a2), (4, .long co), (6, .int (nI turn)), (7, .int vv), (8, .int ww), (15, .int (nI 1)), (10, .int (nI p0)), (11, .int (nI x0)), (12, .int (nI (p0 * 4 + x0))), (13, .int (nI k)), (14, .int (nI t))] := hl
  by_cases hz : K (p0 * 4 + x0) = 0
  · refine lv_aload_n hx hb dL_law_638 rfl (lv_at hl 1 rfl) ?_
    refine lv_iload hx hb dL_law_639 (lv_at hl 9 rfl) ?_
    refine lv_iload hx hb dL_law_641 (lv_at hl 10 rfl) ?_
    refine k_callVW (wr := [(a1, .inl (cI, 32, .inl sg)), (a2, .inl (cI, 32, .inl lq))]) (As := [.int (nI p0), .int (nI x0)]) (rest := []) ⟨hx, hb, hml, hown, hts⟩ (c_X0_remove l D cI q sh sp ld nm tx ds ct co kg ks p0 x0 hp hx0 (k_D_tt (hD.sub [0, 1, 2, 3, 4, 5, 6, 7, 8] (by decide) rfl))) (cwV 2 hts gL_law_X0_remove rfl rfl rfl (by decide +kernel) ⟨Nat.le_of_ble_eq_true rfl, Nat.le_of_ble_eq_true rfl⟩) k_B_bl (k_B_of (hP.sub [0, 1, 2, 3, 4, 5, 6, 7, 8] rfl) hK) (va_recv hK hP (ci := 0) (q0 := 0) rfl rfl) rfl hl.1 rfl (Nat.le_of_ble_eq_true rfl) dL_law_643 ⟨Nat.le_of_ble_eq_true rfl, Nat.le_of_ble_eq_true rfl⟩ hP hD hS [9, 10] [0, 1, 2, 3, 4, 5, 6, 7, 8] rfl rfl (fun _ => rfl) (fun u_643 H locs hu_643 hP hD hS hsz hkp => ?_)
    have hP : va_P D vwCl (wl cI q a1 a2 sh sp ld nm (upd tx (p0 * 4 + x0) (nI 0)) ds ct co (nI 0) ks sg lq) H := hP.sub [2, 3, 4, 5, 6, 7, 8, 9, 10, 0, 1] rfl
    have hD : va_D (fun a : Nat => s.heap.size ≤ a) (wl cI q a1 a2 sh sp ld nm (upd tx (p0 * 4 + x0) (nI 0)) ds ct co (nI 0) ks sg lq) := hD.sub [2, 3, 4, 5, 6, 7, 8, 9, 10, 0, 1] (by decide) rfl
    have hR1 := hR.remove (g := p0 * 4 + x0)
    refine lv_as (y := nI 0) ((hR.had (by omega)).trans (by rw [if_pos hz])) ?_
    refine lv_aload_n hx hb dL_law_646 rfl (lv_at hl 2 rfl) ?_
    refine lv_iload hx hb dL_law_647 (lv_at hl 11 rfl) ?_
    refine n_iald hx hb hK hP 9 0 rfl rfl (k := (p0 * 4 + x0)) (by omega) (Nat.le_of_ble_eq_true rfl) dL_law_649 ?_
    refine lv_as (y := nI 0) ((hR.hsg (by omega)).trans (by rw [if_pos hz])) ?_
    refine lv_iconst (v := nI 1) hx hb dL_law_650 (by decide) ?_
    refine n_icmp_ne (tgt := 658) hx hb dL_law_651 (by decide) (by omega) (by omega) (fun c_651 => ?_) (fun c_651 => ?_)
    · refine lv_iconst (v := nI 0) hx hb dL_law_658 (by decide) ?_
      refine n_icmp_ne_mm (tgt := 677) hx hb dL_law_659 (by decide) ?_
      refine lv_aload_n hx hb dL_law_662 rfl (lv_at hl 1 rfl) ?_
      refine lv_iload hx hb dL_law_663 (lv_at hl 9 rfl) ?_
      refine lv_iload hx hb dL_law_665 (lv_at hl 10 rfl) ?_
      refine k_callVi (As := [.int (nI p0), .int (nI x0)]) (rest := []) ⟨hx, hb, hml, hown, hts⟩ (c_X0_isOld l D cI q sh sp ld nm (upd tx (p0 * 4 + x0) (nI 0)) ds ct co (nI 0) ks p0 x0 hp hx0 _ _ hR1.hG) (cwV 2 hts gL_law_X0_isOld rfl rfl rfl (by decide +kernel) ⟨Nat.le_of_ble_eq_true rfl, Nat.le_of_ble_eq_true rfl⟩) k_B_bl (k_B_of (hP.sub [0, 1, 2, 3, 4, 5, 6, 7, 8] rfl) hK) (va_recv hK hP (ci := 0) (q0 := 0) rfl rfl) rfl hl.1 rfl (Nat.le_of_ble_eq_true rfl) dL_law_667 ⟨Nat.le_of_ble_eq_true rfl, Nat.le_of_ble_eq_true rfl⟩ ?_
      refine lv_as (y := nI 0) (old_rm) ?_
      refine n_if_ne (tgt := 677) hx hb dL_law_670 (by decide) (by decide) (fun c_670 => absurd c_670 (by decide)) (fun _ => ?_)
      refine lv_iconst (v := nI 1) hx hb dL_law_673 (by decide) ?_
      refine lv_goto (tgt := 678) hx hb dL_law_674 (by decide) ?_
      refine lv_istore (lv' := [(15, .int (nI 1)), (0, .ref b), (1, .ref (q 0)), (2, .ref a1), (3, .ref a2), (4, .long co), (6, .int (nI turn)), (7, .int vv), (8, .int ww), (10, .int (nI p0)), (11, .int (nI x0)), (12, .int (nI (p0 * 4 + x0))), (13, .int (nI k)), (14, .int (nI t))]) hx hb dL_law_678 hl (by decide) rfl (fun ls hl => ?_)
      refine lv_aload_n hx hb dL_law_680 rfl (lv_at hl 3 rfl) ?_
      refine lv_iload hx hb dL_law_681 (lv_at hl 11 rfl) ?_
      refine lv_iconst (v := nI 0) hx hb dL_law_683 (by decide) ?_
      refine n_iast hx hb hK hP hD hS 9 0 rfl rfl (k := (p0 * 4 + x0)) (by omega) (Nat.le_of_ble_eq_true rfl) dL_law_684 (fun H locs hP hD hS => ?_)
      have hP : va_P D vwCl (wl cI q a1 a2 sh sp ld nm (upd tx (p0 * 4 + x0) (nI 0)) ds ct co (nI 0) ks (upd sg (p0 * 4 + x0) (nI 0)) lq) H := hP
      have hD : va_D (fun a : Nat => s.heap.size ≤ a) (wl cI q a1 a2 sh sp ld nm (upd tx (p0 * 4 + x0) (nI 0)) ds ct co (nI 0) ks (upd sg (p0 * 4 + x0) (nI 0)) lq) := hD
      refine lv_goto (tgt := 700) hx hb dL_law_685 (by decide) ?_
      exact hk _ _ _ _ (lqI_mk hR1 hP hD hS) (lv_sub hl [1, 2, 3, 4, 5, 6, 7, 8, 0] rfl)
    · exact absurd c_651 (by decide)
  · refine lv_aload_n hx hb dL_law_638 rfl (lv_at hl 1 rfl) ?_
    refine lv_iload hx hb dL_law_639 (lv_at hl 9 rfl) ?_
    refine lv_iload hx hb dL_law_641 (lv_at hl 10 rfl) ?_
    refine k_callVW (wr := [(a1, .inl (cI, 32, .inl sg)), (a2, .inl (cI, 32, .inl lq))]) (As := [.int (nI p0), .int (nI x0)]) (rest := []) ⟨hx, hb, hml, hown, hts⟩ (c_X0_remove l D cI q sh sp ld nm tx ds ct co kg ks p0 x0 hp hx0 (k_D_tt (hD.sub [0, 1, 2, 3, 4, 5, 6, 7, 8] (by decide) rfl))) (cwV 2 hts gL_law_X0_remove rfl rfl rfl (by decide +kernel) ⟨Nat.le_of_ble_eq_true rfl, Nat.le_of_ble_eq_true rfl⟩) k_B_bl (k_B_of (hP.sub [0, 1, 2, 3, 4, 5, 6, 7, 8] rfl) hK) (va_recv hK hP (ci := 0) (q0 := 0) rfl rfl) rfl hl.1 rfl (Nat.le_of_ble_eq_true rfl) dL_law_643 ⟨Nat.le_of_ble_eq_true rfl, Nat.le_of_ble_eq_true rfl⟩ hP hD hS [9, 10] [0, 1, 2, 3, 4, 5, 6, 7, 8] rfl rfl (fun _ => rfl) (fun u_643 H locs hu_643 hP hD hS hsz hkp => ?_)
    have hP : va_P D vwCl (wl cI q a1 a2 sh sp ld nm (upd tx (p0 * 4 + x0) (nI 0)) ds ct co (nI 0) ks sg lq) H := hP.sub [2, 3, 4, 5, 6, 7, 8, 9, 10, 0, 1] rfl
    have hD : va_D (fun a : Nat => s.heap.size ≤ a) (wl cI q a1 a2 sh sp ld nm (upd tx (p0 * 4 + x0) (nI 0)) ds ct co (nI 0) ks sg lq) := hD.sub [2, 3, 4, 5, 6, 7, 8, 9, 10, 0, 1] (by decide) rfl
    have hR1 := hR.remove (g := p0 * 4 + x0)
    refine lv_as (y := nI 1) ((hR.had (by omega)).trans (by rw [if_neg hz])) ?_
    refine lv_aload_n hx hb dL_law_646 rfl (lv_at hl 2 rfl) ?_
    refine lv_iload hx hb dL_law_647 (lv_at hl 11 rfl) ?_
    refine n_iald hx hb hK hP 9 0 rfl rfl (k := (p0 * 4 + x0)) (by omega) (Nat.le_of_ble_eq_true rfl) dL_law_649 ?_
    refine lv_as (y := nI 1) ((hR.hsg (by omega)).trans (by rw [if_neg hz])) ?_
    refine lv_iconst (v := nI 1) hx hb dL_law_650 (by decide) ?_
    refine n_icmp_ne_mm (tgt := 658) hx hb dL_law_651 (by decide) ?_
    refine lv_iconst (v := nI 1) hx hb dL_law_654 (by decide) ?_
    refine lv_goto (tgt := 659) hx hb dL_law_655 (by decide) ?_
    refine n_icmp_ne_mm (tgt := 677) hx hb dL_law_659 (by decide) ?_
    refine lv_aload_n hx hb dL_law_662 rfl (lv_at hl 1 rfl) ?_
    refine lv_iload hx hb dL_law_663 (lv_at hl 9 rfl) ?_
    refine lv_iload hx hb dL_law_665 (lv_at hl 10 rfl) ?_
    refine k_callVi (As := [.int (nI p0), .int (nI x0)]) (rest := []) ⟨hx, hb, hml, hown, hts⟩ (c_X0_isOld l D cI q sh sp ld nm (upd tx (p0 * 4 + x0) (nI 0)) ds ct co (nI 0) ks p0 x0 hp hx0 _ _ hR1.hG) (cwV 2 hts gL_law_X0_isOld rfl rfl rfl (by decide +kernel) ⟨Nat.le_of_ble_eq_true rfl, Nat.le_of_ble_eq_true rfl⟩) k_B_bl (k_B_of (hP.sub [0, 1, 2, 3, 4, 5, 6, 7, 8] rfl) hK) (va_recv hK hP (ci := 0) (q0 := 0) rfl rfl) rfl hl.1 rfl (Nat.le_of_ble_eq_true rfl) dL_law_667 ⟨Nat.le_of_ble_eq_true rfl, Nat.le_of_ble_eq_true rfl⟩ ?_
    refine lv_as (y := nI 0) (old_rm) ?_
    refine n_if_ne (tgt := 677) hx hb dL_law_670 (by decide) (by decide) (fun c_670 => absurd c_670 (by decide)) (fun _ => ?_)
    refine lv_iconst (v := nI 1) hx hb dL_law_673 (by decide) ?_
    refine lv_goto (tgt := 678) hx hb dL_law_674 (by decide) ?_
    refine lv_istore (lv' := [(15, .int (nI 1)), (0, .ref b), (1, .ref (q 0)), (2, .ref a1), (3, .ref a2), (4, .long co), (6, .int (nI turn)), (7, .int vv), (8, .int ww), (10, .int (nI p0)), (11, .int (nI x0)), (12, .int (nI (p0 * 4 + x0))), (13, .int (nI k)), (14, .int (nI t))]) hx hb dL_law_678 hl (by decide) rfl (fun ls hl => ?_)
    refine lv_aload_n hx hb dL_law_680 rfl (lv_at hl 3 rfl) ?_
    refine lv_iload hx hb dL_law_681 (lv_at hl 11 rfl) ?_
    refine lv_iconst (v := nI 0) hx hb dL_law_683 (by decide) ?_
    refine n_iast hx hb hK hP hD hS 9 0 rfl rfl (k := (p0 * 4 + x0)) (by omega) (Nat.le_of_ble_eq_true rfl) dL_law_684 (fun H locs hP hD hS => ?_)
    have hP : va_P D vwCl (wl cI q a1 a2 sh sp ld nm (upd tx (p0 * 4 + x0) (nI 0)) ds ct co (nI 0) ks (upd sg (p0 * 4 + x0) (nI 0)) lq) H := hP
    have hD : va_D (fun a : Nat => s.heap.size ≤ a) (wl cI q a1 a2 sh sp ld nm (upd tx (p0 * 4 + x0) (nI 0)) ds ct co (nI 0) ks (upd sg (p0 * 4 + x0) (nI 0)) lq) := hD
    refine lv_goto (tgt := 700) hx hb dL_law_685 (by decide) ?_
    exact hk _ _ _ _ (lqI_mk hR1 hP hD hS) (lv_sub hl [1, 2, 3, 4, 5, 6, 7, 8, 0] rfl)
set_option maxHeartbeats 4000000 in
set_option maxRecDepth 100000 in
theorem lb_walk {p : Program} {l : Launch} {e : Env} {s : State} {m : MethodId} {below : List Frame} {meth : Method} {c : Code} {b L : Nat} {xs : Nat → Int32} {D : va_G} {cI : ClassId} {q : Nat → Nat} {a1 a2 : Nat} {co : Int64} {H : Heap} {locs : List Loc} {ls : Array Slot} {turn : Nat} {vv ww : Int32} (hC : lqC p s m meth c b L xs D cI) {p0 x0 k t : Nat} (hp : p0 < 8) (hx0 : x0 < 4) (hk1 : 1 ≤ k) (hk5 : k ≤ 5) (htk : t < 8 ^ k) (hI : lqI D cI q a1 a2 co s H locs) (hl : lv_has ls 24 (lqN b q a1 a2 co turn vv ww p0 x0 k t)) (hk : ∀ (H : Heap) (locs : List Loc) (ls : Array Slot) (co : Int64), lqI D cI q a1 a2 co s H locs → lv_has ls 24 (lqM b q a1 a2 co turn vv ww) → W p l e room_1 s m #[Value.ref b] below meth c H locs 96 1076 (lw_Z below #[Value.ref b] s) (F0 m 700 ls [])) : W p l e room_1 s m #[Value.ref b] below meth c H locs 96 1076 (lw_Z below #[Value.ref b] s) (F0 m 688 ls []) := by
  obtain ⟨C0, hK, hL⟩ := id hC
  obtain ⟨hx, hb, hr, hml, hown, hts0, hX, hbl, hlocks, hgv⟩ := id C0
  have hts : ∀ w ∈ wsL_law, w.before #[Value.ref b] s = true := fun w h => hts0 w (wsL_law_in w h)
  have hown : s.vm.findClass RL = some m.cls := hown
  have hbA : ¬ (fun a : Nat => s.heap.size ≤ a) b := Nat.not_le.mpr hbl
  obtain ⟨sh, sp, ld, nm, tx, ds, ct, kg, ks, sg, lq, T, K, Ld, NT, NK, hR, hP, hD, hS⟩ := hI
  have hl : lv_has ls 24 [(0, .ref b), (1, .ref (q 0)), (2, .ref a1), (3, .ref a2), (4, .long co), (6, .int (nI turn)), (7, .int vv), (8, .int ww), (15, .int (nI 1)), (10, .int (nI p0)), (11, .int (nI x0)), (12, .int (nI (p0 * 4 + x0))), (13, .int (nI k)), (14, .int (nI t))] := hl
  refine lv_aload_n hx hb dL_law_688 rfl (lv_at hl 1 rfl) ?_
  refine lv_iload hx hb dL_law_689 (lv_at hl 9 rfl) ?_
  refine lv_iload hx hb dL_law_691 (lv_at hl 13 rfl) ?_
  refine lv_iload hx hb dL_law_693 (lv_at hl 12 rfl) ?_
  refine k_callSW (wr := [(a1, .inl (cI, 32, .inl sg)), (a2, .inl (cI, 32, .inl lq))]) (As := [.ref (q 0), .int (nI p0), .int (nI t), .int (nI k)]) (rest := []) ⟨hx, hb, hml, hown, hts⟩ (c_L_isWalk l D cI q sh sp ld nm tx ds ct co kg ks p0 hp t k hk1 hk5 htk _ _ hR.hG _ hR.hLd hR.1 _ _ hR.2.2.1 hR.2.2.2.2 (k_D_tt (hD.sub [0, 1, 2, 3, 4, 5, 6, 7, 8] (by decide) rfl))) (va_cwS 4 hts gL_law_L_isWalk rfl rfl rfl (by decide +kernel) ⟨Nat.le_of_ble_eq_true rfl, Nat.le_of_ble_eq_true rfl⟩) k_B_bl (k_B_of (hP.sub [0, 1, 2, 3, 4, 5, 6, 7, 8] rfl) hK) rfl hl.1 rfl (Nat.le_of_ble_eq_true rfl) dL_law_695 ⟨Nat.le_of_ble_eq_true rfl, Nat.le_of_ble_eq_true rfl⟩ hP hD hS [9, 10] [0, 1, 2, 3, 4, 5, 6, 7, 8] rfl rfl (fun _ => rfl) (fun u_695 H locs hu_695 hP hD hS hsz hkp => ?_)
  have hP : va_P D vwCl (wl cI q a1 a2 sh sp ld nm tx ds ct co u_695.1 u_695.2 sg lq) H := hP.sub [2, 3, 4, 5, 6, 7, 8, 9, 10, 0, 1] rfl
  have hD : va_D (fun a : Nat => s.heap.size ≤ a) (wl cI q a1 a2 sh sp ld nm tx ds ct co u_695.1 u_695.2 sg lq) := hD.sub [2, 3, 4, 5, 6, 7, 8, 9, 10, 0, 1] (by decide) rfl
  have hR := hR.walk hu_695
  refine lv_istore (lv' := [(15, .int (nI 1)), (0, .ref b), (1, .ref (q 0)), (2, .ref a1), (3, .ref a2), (4, .long co), (6, .int (nI turn)), (7, .int vv), (8, .int ww), (10, .int (nI p0)), (11, .int (nI x0)), (12, .int (nI (p0 * 4 + x0))), (13, .int (nI k)), (14, .int (nI t))]) hx hb dL_law_698 hl (by decide) rfl (fun ls hl => ?_)
  exact hk _ _ _ _ (lqI_mk hR hP hD hS) (lv_sub hl [1, 2, 3, 4, 5, 6, 7, 8, 0] rfl)
set_option maxHeartbeats 4000000 in
set_option maxRecDepth 100000 in
theorem lb_tail {p : Program} {l : Launch} {e : Env} {s : State} {m : MethodId} {below : List Frame} {meth : Method} {c : Code} {b L : Nat} {xs : Nat → Int32} {D : va_G} {cI : ClassId} {q : Nat → Nat} {a1 a2 : Nat} {co : Int64} {H : Heap} {locs : List Loc} {ls : Array Slot} {turn : Nat} {vv ww : Int32} (hC : lqC p s m meth c b L xs D cI)  (hI : lqI D cI q a1 a2 co s H locs) (hl : lv_has ls 24 (lqM b q a1 a2 co turn vv ww)) (he : ∀ (ls : Array Slot), lv_has ls 24 (lqL b q a1 a2 co (turn + 1)) → W p l e room_1 s m #[Value.ref b] below meth c H locs 96 1076 (lw_Z below #[Value.ref b] s) (F0 m 45 ls [])) : W p l e room_1 s m #[Value.ref b] below meth c H locs 96 1076 (lw_Z below #[Value.ref b] s) (F0 m 700 ls []) := by
  obtain ⟨C0, hK, hL⟩ := id hC
  obtain ⟨hx, hb, hr, hml, hown, hts0, hX, hbl, hlocks, hgv⟩ := id C0
  have hts : ∀ w ∈ wsL_law, w.before #[Value.ref b] s = true := fun w h => hts0 w (wsL_law_in w h)
  have hown : s.vm.findClass RL = some m.cls := hown
  have hbA : ¬ (fun a : Nat => s.heap.size ≤ a) b := Nat.not_le.mpr hbl
  obtain ⟨sh, sp, ld, nm, tx, ds, ct, kg, ks, sg, lq, T, K, Ld, NT, NK, hR, hP, hD, hS⟩ := hI
  have hl : lv_has ls 24 [(0, .ref b), (1, .ref (q 0)), (2, .ref a1), (3, .ref a2), (4, .long co), (6, .int (nI turn)), (7, .int vv), (8, .int ww), (15, .int (nI 1))] := hl
  refine lv_iconst (v := nI 0) hx hb dL_law_700 (by decide) ?_
  refine lv_istore (lv' := [(16, .int (nI 0)), (0, .ref b), (1, .ref (q 0)), (2, .ref a1), (3, .ref a2), (4, .long co), (6, .int (nI turn)), (7, .int vv), (8, .int ww), (15, .int (nI 1))]) hx hb dL_law_701 hl (by decide) rfl (fun ls hl => ?_)
  refine W.loop (fun i ls => lv_has ls 24 [(0, .ref b), (1, .ref (q 0)), (2, .ref a1), (3, .ref a2), (4, .long co), (6, .int (nI turn)), (7, .int vv), (8, .int ww), (15, .int (nI 1)), (16, .int (nI (5 * i)))]) (7) (0) (by omega) (lv_sub hl [1, 2, 3, 4, 5, 6, 7, 8, 9, 0] rfl) ?_
  intro i ls hi_703 hI_703 ih_703
  have hl := hI_703
  refine lv_iload hx hb dL_law_703 (lv_at hl 9 rfl) ?_
  refine lv_bipush (v := nI 32) hx hb dL_law_705 (by decide) ?_
  refine n_icmp_ge (tgt := 787) hx hb dL_law_707 (by decide) (by omega) (by omega) (fun c_707 => ?_) (fun c_707 => ?_)
  · refine lv_iload hx hb dL_law_787 (lv_at hl 8 rfl) ?_
    refine n_if_eq (tgt := 825) hx hb dL_law_789 (by decide) (by decide) (fun c_789 => absurd c_789 (by decide)) (fun _ => ?_)
    refine lv_aload_n hx hb dL_law_792 rfl (lv_at hl 1 rfl) ?_
    refine k_callV (v := some (.long co)) (As := []) (rest := []) ⟨hx, hb, hml, hown, hts⟩ (c_X0_cost l D cI q sh sp ld nm tx ds ct co kg ks) (cwV 0 hts gL_law_X0_cost rfl rfl rfl (by decide +kernel) ⟨Nat.le_of_ble_eq_true rfl, Nat.le_of_ble_eq_true rfl⟩) k_B_bl (k_B_of (hP.sub [0, 1, 2, 3, 4, 5, 6, 7, 8] rfl) hK) (va_recv hK hP (ci := 0) (q0 := 0) rfl rfl) rfl hl.1 rfl (Nat.le_of_ble_eq_true rfl) dL_law_793 ⟨Nat.le_of_ble_eq_true rfl, Nat.le_of_ble_eq_true rfl⟩ ?_
    refine lv_lload hx hb dL_law_796 (lv_at hl 4 rfl) ?_
    refine n_lcmpEq hx hb rfl dL_law_798 ?_
    refine n_if_ne (tgt := 825) hx hb dL_law_799 (by decide) (by decide) (fun c_799 => absurd c_799 (by decide)) (fun _ => ?_)
    refine lv_aload_n hx hb dL_law_802 rfl (lv_at hl 1 rfl) ?_
    refine lv_iload hx hb dL_law_803 (lv_at hl 6 rfl) ?_
    refine lv_iconst (v := nI 4) hx hb dL_law_805 (by decide) ?_
    refine lv_ishr hx hb dL_law_806 ?_
    refine lv_bipush (v := nI 8) hx hb dL_law_807 (by decide) ?_
    refine k_callSi (As := [.int (vv >>> ((nI 4) &&& 31)), .int (nI 8)]) (rest := [.ref (q 0)]) ⟨hx, hb, hml, hown, hts⟩ (c_L_low l (vv >>> ((nI 4) &&& 31)) 8 (by decide) (by decide)) (va_cwS 2 hts gL_law_L_low rfl rfl rfl (by decide +kernel) ⟨Nat.le_of_ble_eq_true rfl, Nat.le_of_ble_eq_true rfl⟩) k_bl_tt (fun _ _ _ => trivial) rfl hl.1 rfl (Nat.le_of_ble_eq_true rfl) dL_law_809 ⟨Nat.le_of_ble_eq_true rfl, Nat.le_of_ble_eq_true rfl⟩ ?_
    obtain ⟨y809, e_y809⟩ : ∃ z, lowN (vv >>> ((nI 4) &&& 31)) 8 = z := ⟨_, rfl⟩
    have h_y809 : y809 < 8 := by rw [← e_y809]; exact lowN_lt _ (by decide)
    refine lv_as (y := nI y809) (congrArg nI e_y809) ?_
    refine lv_iload hx hb dL_law_812 (lv_at hl 7 rfl) ?_
    refine lv_bipush (v := nI 8) hx hb dL_law_814 (by decide) ?_
    refine k_callSi (As := [.int ww, .int (nI 8)]) (rest := [.int (nI y809), .ref (q 0)]) ⟨hx, hb, hml, hown, hts⟩ (c_L_low l ww 8 (by decide) (by decide)) (va_cwS 2 hts gL_law_L_low rfl rfl rfl (by decide +kernel) ⟨Nat.le_of_ble_eq_true rfl, Nat.le_of_ble_eq_true rfl⟩) k_bl_tt (fun _ _ _ => trivial) rfl hl.1 rfl (Nat.le_of_ble_eq_true rfl) dL_law_816 ⟨Nat.le_of_ble_eq_true rfl, Nat.le_of_ble_eq_true rfl⟩ ?_
    obtain ⟨y816, e_y816⟩ : ∃ z, lowN ww 8 = z := ⟨_, rfl⟩
    have h_y816 : y816 < 8 := by rw [← e_y816]; exact lowN_lt _ (by decide)
    refine lv_as (y := nI y816) (congrArg nI e_y816) ?_
    refine k_callSi (As := [.ref (q 0), .int (nI y809), .int (nI y816)]) (rest := []) ⟨hx, hb, hml, hown, hts⟩ (c_L_areGlyphs l D cI q sh sp ld nm tx ds ct co kg ks y809 y816 (by omega) (by omega) hR.1) (va_cwS 3 hts gL_law_L_areGlyphs rfl rfl rfl (by decide +kernel) ⟨Nat.le_of_ble_eq_true rfl, Nat.le_of_ble_eq_true rfl⟩) k_B_bl (k_B_of (hP.sub [0, 1, 2, 3, 4, 5, 6, 7, 8] rfl) hK) rfl hl.1 rfl (Nat.le_of_ble_eq_true rfl) dL_law_819 ⟨Nat.le_of_ble_eq_true rfl, Nat.le_of_ble_eq_true rfl⟩ ?_
    refine lv_as (y := nI 1) (rfl) ?_
    refine n_if_ne (tgt := 827) hx hb dL_law_822 (by decide) (by decide) (fun _ => ?_) (fun c_822 => absurd c_822 (by decide))
    refine lv_iinc (v := nI (turn + 1)) (lv' := [(6, .int (nI (turn + 1))), (0, .ref b), (1, .ref (q 0)), (2, .ref a1), (3, .ref a2), (4, .long co), (7, .int vv), (8, .int ww), (15, .int (nI 1)), (16, .int (nI (5 * i)))]) hx hb dL_law_827 hl (k := 5) rfl (nI_inc _) (by decide) rfl (fun ls hl => ?_)
    refine lv_goto (tgt := 45) hx hb dL_law_830 (by decide) ?_
    exact he _ (lv_sub hl [1, 2, 3, 4, 5, 0] rfl)
  · refine lv_iload hx hb dL_law_710 (lv_at hl 8 rfl) ?_
    refine n_if_eq (tgt := 787) hx hb dL_law_712 (by decide) (by decide) (fun c_712 => absurd c_712 (by decide)) (fun _ => ?_)
    have h5 : 5 * i / 4 * 4 + 5 * i % 4 = 5 * i := by omega
    by_cases hz : K (5 * i) = 0
    · refine lv_aload_n hx hb dL_law_715 rfl (lv_at hl 1 rfl) ?_
      refine lv_iload hx hb dL_law_716 (lv_at hl 9 rfl) ?_
      refine lv_iconst (v := nI 4) hx hb dL_law_718 (by decide) ?_
      refine lv_idiv hx hb dL_law_719 (nI_ne0 (by omega) (by omega)) ?_
      refine lv_as (y := nI ((5 * i) / 4)) (pk_div (by omega) (by omega) (by omega)) ?_
      refine lv_iload hx hb dL_law_720 (lv_at hl 9 rfl) ?_
      refine lv_iconst (v := nI 4) hx hb dL_law_722 (by decide) ?_
      refine lv_irem hx hb dL_law_723 (nI_ne0 (by omega) (by omega)) ?_
      refine lv_as (y := nI ((5 * i) % 4)) (pk_rem (by omega) (by omega) (by omega)) ?_
      refine k_callVi (As := [.int (nI ((5 * i) / 4)), .int (nI ((5 * i) % 4))]) (rest := []) ⟨hx, hb, hml, hown, hts⟩ (c_X0_read l D cI q sh sp ld nm tx ds ct co kg ks ((5 * i) / 4) ((5 * i) % 4) (by omega) (by omega) _ _ hR.hG hR.1 hR.hS0) (cwV 2 hts gL_law_X0_read rfl rfl rfl (by decide +kernel) ⟨Nat.le_of_ble_eq_true rfl, Nat.le_of_ble_eq_true rfl⟩) k_B_bl (k_B_of (hP.sub [0, 1, 2, 3, 4, 5, 6, 7, 8] rfl) hK) (va_recv hK hP (ci := 0) (q0 := 0) rfl rfl) rfl hl.1 rfl (Nat.le_of_ble_eq_true rfl) dL_law_724 ⟨Nat.le_of_ble_eq_true rfl, Nat.le_of_ble_eq_true rfl⟩ ?_
      refine lv_as (y := (-1)) (by rw [h5]; exact if_pos hz) ?_
      refine lv_if_lt (tgt := 734) hx hb dL_law_727 (by decide) (fun c_727 => ?_) (fun c_727 => ?_)
      · refine lv_iconst (v := nI 0) hx hb dL_law_734 (by decide) ?_
        refine lv_aload_n hx hb dL_law_735 rfl (lv_at hl 2 rfl) ?_
        refine lv_iload hx hb dL_law_736 (lv_at hl 9 rfl) ?_
        refine n_iald hx hb hK hP 9 0 rfl rfl (k := (5 * i)) (by omega) (Nat.le_of_ble_eq_true rfl) dL_law_738 ?_
        refine lv_as (y := nI 0) ((hR.hsg (by omega)).trans (by rw [if_pos hz])) ?_
        refine lv_iconst (v := nI 1) hx hb dL_law_739 (by decide) ?_
        refine n_icmp_ne (tgt := 747) hx hb dL_law_740 (by decide) (by omega) (by omega) (fun c_740 => ?_) (fun c_740 => ?_)
        · refine lv_iconst (v := nI 0) hx hb dL_law_747 (by decide) ?_
          refine n_icmp_ne_mm (tgt := 778) hx hb dL_law_748 (by decide) ?_
          refine lv_aload_n hx hb dL_law_751 rfl (lv_at hl 2 rfl) ?_
          refine lv_iload hx hb dL_law_752 (lv_at hl 9 rfl) ?_
          refine n_iald hx hb hK hP 9 0 rfl rfl (k := (5 * i)) (by omega) (Nat.le_of_ble_eq_true rfl) dL_law_754 ?_
          refine lv_as (y := nI 0) ((hR.hsg (by omega)).trans (by rw [if_pos hz])) ?_
          refine lv_iconst (v := nI 1) hx hb dL_law_755 (by decide) ?_
          refine n_icmp_eq (tgt := 774) hx hb dL_law_756 (by decide) (by omega) (by omega) (fun c_756 => ?_) (fun c_756 => ?_)
          · exact absurd c_756 (by decide)
          · refine lv_aload_n hx hb dL_law_759 rfl (lv_at hl 1 rfl) ?_
            refine lv_iload hx hb dL_law_760 (lv_at hl 9 rfl) ?_
            refine lv_iconst (v := nI 4) hx hb dL_law_762 (by decide) ?_
            refine lv_idiv hx hb dL_law_763 (nI_ne0 (by omega) (by omega)) ?_
            refine lv_as (y := nI ((5 * i) / 4)) (pk_div (by omega) (by omega) (by omega)) ?_
            refine lv_iload hx hb dL_law_764 (lv_at hl 9 rfl) ?_
            refine lv_iconst (v := nI 4) hx hb dL_law_766 (by decide) ?_
            refine lv_irem hx hb dL_law_767 (nI_ne0 (by omega) (by omega)) ?_
            refine lv_as (y := nI ((5 * i) % 4)) (pk_rem (by omega) (by omega) (by omega)) ?_
            refine k_callVi (As := [.int (nI ((5 * i) / 4)), .int (nI ((5 * i) % 4))]) (rest := []) ⟨hx, hb, hml, hown, hts⟩ (c_X0_isOld l D cI q sh sp ld nm tx ds ct co kg ks ((5 * i) / 4) ((5 * i) % 4) (by omega) (by omega) _ _ hR.hG) (cwV 2 hts gL_law_X0_isOld rfl rfl rfl (by decide +kernel) ⟨Nat.le_of_ble_eq_true rfl, Nat.le_of_ble_eq_true rfl⟩) k_B_bl (k_B_of (hP.sub [0, 1, 2, 3, 4, 5, 6, 7, 8] rfl) hK) (va_recv hK hP (ci := 0) (q0 := 0) rfl rfl) rfl hl.1 rfl (Nat.le_of_ble_eq_true rfl) dL_law_768 ⟨Nat.le_of_ble_eq_true rfl, Nat.le_of_ble_eq_true rfl⟩ ?_
            refine lv_as (y := nI 0) (by rw [h5, hz]; rfl) ?_
            refine n_if_ne (tgt := 778) hx hb dL_law_771 (by decide) (by decide) (fun c_771 => absurd c_771 (by decide)) (fun _ => ?_)
            refine lv_iconst (v := nI 1) hx hb dL_law_774 (by decide) ?_
            refine lv_goto (tgt := 779) hx hb dL_law_775 (by decide) ?_
            refine lv_istore (lv' := [(15, .int (nI 1)), (0, .ref b), (1, .ref (q 0)), (2, .ref a1), (3, .ref a2), (4, .long co), (6, .int (nI turn)), (7, .int vv), (8, .int ww), (16, .int (nI (5 * i)))]) hx hb dL_law_779 hl (by decide) rfl (fun ls hl => ?_)
            refine lv_iinc (v := nI (5 * (i + 1))) (lv' := [(16, .int (nI (5 * (i + 1)))), (15, .int (nI 1)), (0, .ref b), (1, .ref (q 0)), (2, .ref a1), (3, .ref a2), (4, .long co), (6, .int (nI turn)), (7, .int vv), (8, .int ww)]) hx hb dL_law_781 hl (k := 9) rfl ((nI_add _ 5).trans (congrArg nI (by omega))) (by decide) rfl (fun ls hl => ?_)
            refine lv_goto (tgt := 703) hx hb dL_law_784 (by decide) ?_
            exact ih_703 _ (by omega) (lv_sub hl [2, 3, 4, 5, 6, 7, 8, 9, 1, 0] rfl)
        · exact absurd c_740 (by decide)
      · exact absurd (by decide) c_727
    · obtain ⟨r, hr15, er⟩ := hR.rd (w := 5 * i) (by omega) hz
      refine lv_aload_n hx hb dL_law_715 rfl (lv_at hl 1 rfl) ?_
      refine lv_iload hx hb dL_law_716 (lv_at hl 9 rfl) ?_
      refine lv_iconst (v := nI 4) hx hb dL_law_718 (by decide) ?_
      refine lv_idiv hx hb dL_law_719 (nI_ne0 (by omega) (by omega)) ?_
      refine lv_as (y := nI ((5 * i) / 4)) (pk_div (by omega) (by omega) (by omega)) ?_
      refine lv_iload hx hb dL_law_720 (lv_at hl 9 rfl) ?_
      refine lv_iconst (v := nI 4) hx hb dL_law_722 (by decide) ?_
      refine lv_irem hx hb dL_law_723 (nI_ne0 (by omega) (by omega)) ?_
      refine lv_as (y := nI ((5 * i) % 4)) (pk_rem (by omega) (by omega) (by omega)) ?_
      refine k_callVi (As := [.int (nI ((5 * i) / 4)), .int (nI ((5 * i) % 4))]) (rest := []) ⟨hx, hb, hml, hown, hts⟩ (c_X0_read l D cI q sh sp ld nm tx ds ct co kg ks ((5 * i) / 4) ((5 * i) % 4) (by omega) (by omega) _ _ hR.hG hR.1 hR.hS0) (cwV 2 hts gL_law_X0_read rfl rfl rfl (by decide +kernel) ⟨Nat.le_of_ble_eq_true rfl, Nat.le_of_ble_eq_true rfl⟩) k_B_bl (k_B_of (hP.sub [0, 1, 2, 3, 4, 5, 6, 7, 8] rfl) hK) (va_recv hK hP (ci := 0) (q0 := 0) rfl rfl) rfl hl.1 rfl (Nat.le_of_ble_eq_true rfl) dL_law_724 ⟨Nat.le_of_ble_eq_true rfl, Nat.le_of_ble_eq_true rfl⟩ ?_
      refine lv_as (y := nI r) (by rw [h5]; exact er) ?_
      refine n_if_lt (tgt := 734) hx hb dL_law_727 (by decide) (by omega) ?_
      refine lv_iconst (v := nI 1) hx hb dL_law_730 (by decide) ?_
      refine lv_goto (tgt := 735) hx hb dL_law_731 (by decide) ?_
      refine lv_aload_n hx hb dL_law_735 rfl (lv_at hl 2 rfl) ?_
      refine lv_iload hx hb dL_law_736 (lv_at hl 9 rfl) ?_
      refine n_iald hx hb hK hP 9 0 rfl rfl (k := (5 * i)) (by omega) (Nat.le_of_ble_eq_true rfl) dL_law_738 ?_
      refine lv_as (y := nI 1) ((hR.hsg (by omega)).trans (by rw [if_neg hz])) ?_
      refine lv_iconst (v := nI 1) hx hb dL_law_739 (by decide) ?_
      refine n_icmp_ne_mm (tgt := 747) hx hb dL_law_740 (by decide) ?_
      refine lv_iconst (v := nI 1) hx hb dL_law_743 (by decide) ?_
      refine lv_goto (tgt := 748) hx hb dL_law_744 (by decide) ?_
      refine n_icmp_ne_mm (tgt := 778) hx hb dL_law_748 (by decide) ?_
      refine lv_aload_n hx hb dL_law_751 rfl (lv_at hl 2 rfl) ?_
      refine lv_iload hx hb dL_law_752 (lv_at hl 9 rfl) ?_
      refine n_iald hx hb hK hP 9 0 rfl rfl (k := (5 * i)) (by omega) (Nat.le_of_ble_eq_true rfl) dL_law_754 ?_
      refine lv_as (y := nI 1) ((hR.hsg (by omega)).trans (by rw [if_neg hz])) ?_
      refine lv_iconst (v := nI 1) hx hb dL_law_755 (by decide) ?_
      refine n_icmp_eq (tgt := 774) hx hb dL_law_756 (by decide) (by omega) (by omega) (fun c_756 => ?_) (fun c_756 => ?_)
      · refine lv_iconst (v := nI 1) hx hb dL_law_774 (by decide) ?_
        refine lv_goto (tgt := 779) hx hb dL_law_775 (by decide) ?_
        refine lv_istore (lv' := [(15, .int (nI 1)), (0, .ref b), (1, .ref (q 0)), (2, .ref a1), (3, .ref a2), (4, .long co), (6, .int (nI turn)), (7, .int vv), (8, .int ww), (16, .int (nI (5 * i)))]) hx hb dL_law_779 hl (by decide) rfl (fun ls hl => ?_)
        refine lv_iinc (v := nI (5 * (i + 1))) (lv' := [(16, .int (nI (5 * (i + 1)))), (15, .int (nI 1)), (0, .ref b), (1, .ref (q 0)), (2, .ref a1), (3, .ref a2), (4, .long co), (6, .int (nI turn)), (7, .int vv), (8, .int ww)]) hx hb dL_law_781 hl (k := 9) rfl ((nI_add _ 5).trans (congrArg nI (by omega))) (by decide) rfl (fun ls hl => ?_)
        refine lv_goto (tgt := 703) hx hb dL_law_784 (by decide) ?_
        exact ih_703 _ (by omega) (lv_sub hl [2, 3, 4, 5, 6, 7, 8, 9, 1, 0] rfl)
      · exact absurd rfl c_756
