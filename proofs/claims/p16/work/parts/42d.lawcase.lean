theorem gL_law_X8_wonts : GoodIn wsL_law (wsV RL 141 RX8 yX8_wonts wzX8_wonts) := wz_coL bm_927 (wz_coL bm_928 (wz_coL bm_929 (wz_coL bm_2 (wz_inL bm_930))))
theorem gL_law_X9_wonts : GoodIn wsL_law (wsV RL 144 RX9 yX9_wonts wzX9_wonts) := wz_coL bm_931 (wz_coL bm_932 (wz_coL bm_933 (wz_coL bm_5 (wz_inL bm_934))))
set_option maxHeartbeats 4000000 in
set_option maxRecDepth 100000 in
theorem lc_wonts {p : Program} {l : Launch} {e : Env} {s : State} {m : MethodId} {below : List Frame} {meth : Method} {c : Code} {b L x y : Nat} {xs : Nat → Int32} {E : zz_E} {Q : State → Prop} (hA : zz_LA p s m c b L xs E x y) (i : Int32) (hi : 0 ≤ i.toInt ∧ i.toInt + 6 ≤ L) (σ : zz_S) (H : Heap) (locs : List Loc) (ls : Array Slot) (hR : zz_RL σ x y) (hQ : zz_RD σ x y) (hP : zz_P E σ H) (hS : va_S (zz_A E) s.heap H locs) (hl : lv_has ls 4 [(0, .ref b), (1, .ref x), (2, .ref y), (3, .int i)])
    (kk : ∀ (σ1 : zz_S) (H1 : Heap) (locs1 : List Loc), zz_RL σ1 x y → zz_RD σ1 x y → zz_P E σ1 H1 → va_S (zz_A E) s.heap H1 locs1 → W p l e room_1 s m #[Value.ref b] below meth c H1 locs1 600000 7302250 Q (F0 m 1384 ls [])) : W p l e room_1 s m #[Value.ref b] below meth c H locs 600000 7302250 Q (F0 m 1230 ls []) := by
  obtain ⟨hx, hb, hml, hown, hts, hX, hbl, hbE, hL, gL, gM, hxy, hK⟩ := hA
  have hbA : ¬ zz_A E b := fun h => absurd (hbE b h) (Nat.not_le.mpr hbl)
  have k_1 : (1 : Int32).toInt = 1 := by decide +kernel
  refine lv_aload_n hx hb dL_law_1230 rfl (lv_at hl 1 rfl) ?_
  refine lv_aload_n hx hb dL_law_1231 rfl (lv_at hl 0 rfl) ?_
  refine lv_iload_n hx hb dL_law_1232 rfl (lv_at hl 3 rfl) ?_
  refine lv_iconst (v := 1) hx hb dL_law_1233 (by decide) ?_
  refine lv_iadd hx hb dL_law_1234 ?_
  refine lv_topi (fun n1 e1 => ?_)
  have f1 : n1.toInt = (i).toInt + (1 : Int32).toInt := zz_addT e1 (by omega) (by omega)
  refine va_sld hx hb hX hbl hbA hS (vp_in_iff.mpr ⟨by omega, by omega⟩) dL_law_1235 ?_
  refine lv_topi (fun v2 u2 => ?_)
  refine zz_callVi (As := [.int v2]) (rest := []) ⟨hx, hb, hml, hown, hts⟩ hK hP hS (c_X8_wonts l E σ x v2 gL hR.1) (cwV 1 hts gL_law_X8_wonts rfl rfl rfl (by decide +kernel) ⟨Nat.le_of_ble_eq_true rfl, Nat.le_of_ble_eq_true rfl⟩) (gL.1) rfl rfl hl.1 rfl (Nat.le_of_ble_eq_true rfl) dL_law_1236 ⟨Nat.le_refl _, Nat.le_refl _⟩ (fun r1 σ1 H locs q1 hP hS => ?_)
  try dsimp only at q1
  obtain ⟨w1, p1⟩ := q1
  have B : ∀ a k : Nat, y ≤ a → a ≤ y + 12 → σ1 a k = σ a k := fun a k h1 h2 => w1 a k ((dW_192 x y hxy) a k h1 h2)
  have hJ1 : zz_IM σ1 y := hR.2.1.far B
  refine lv_pop hx hb dL_law_1239 rfl ?_
  refine lv_aload_n hx hb dL_law_1240 rfl (lv_at hl 2 rfl) ?_
  refine lv_aload_n hx hb dL_law_1241 rfl (lv_at hl 0 rfl) ?_
  refine lv_iload_n hx hb dL_law_1242 rfl (lv_at hl 3 rfl) ?_
  refine lv_iconst (v := 1) hx hb dL_law_1243 (by decide) ?_
  refine lv_iadd hx hb dL_law_1244 ?_
  refine lv_topi (fun n4 e4 => ?_)
  have f4 : n4.toInt = (i).toInt + (1 : Int32).toInt := zz_addT e4 (by omega) (by omega)
  refine va_sld hx hb hX hbl hbA hS (vp_in_iff.mpr ⟨by omega, by omega⟩) dL_law_1245 ?_
  refine lv_topi (fun v5 u5 => ?_)
  have z5 : v5 = v2 := by rw [u5, u2, e4, e1]
  have zt5 := congrArg Int32.toInt z5
  refine zz_callVi (As := [.int v5]) (rest := []) ⟨hx, hb, hml, hown, hts⟩ hK hP hS (c_X9_wonts l E σ1 y v5 gM hJ1) (cwV 1 hts gL_law_X9_wonts rfl rfl rfl (by decide +kernel) ⟨Nat.le_of_ble_eq_true rfl, Nat.le_of_ble_eq_true rfl⟩) (gM.1) rfl rfl hl.1 rfl (Nat.le_of_ble_eq_true rfl) dL_law_1246 ⟨Nat.le_refl _, Nat.le_refl _⟩ (fun r2 σ2 H locs q2 hP hS => ?_)
  try dsimp only at q2
  obtain ⟨w2, p2⟩ := q2
  have A : ∀ a k : Nat, x ≤ a → a < x + 76 → σ2 a k = σ1 a k := fun a k h1 h2 => w2 a k ((dW_193 x y hxy) a k h1 h2)
  obtain ⟨i1, p1⟩ := p1
  obtain ⟨i2, p2⟩ := p2
  try simp only [z5] at p2
  have hRL : zz_RL σ2 x y := hR.soft i1 i2 A B (fun k => w1 (x + 1) k ((dW_199 x y hxy) k)) (fun k hk => w2 (y + 1) k ((dW_194 x y hxy) k hk)) (fun k => w1 (x + 28) k ((dW_195 x y hxy) k)) (w1 x 2 (dW_196 x y hxy)) (fun k => w2 (y + 2) k ((dW_197 x y hxy) k)) (w2 y 2 (dW_198 x y hxy))
  obtain ⟨hqD, hqW, hqK, hqB, hqN, hqC, hqL, hqT, hqP, hqX, hqF, hqG, hqV⟩ := hQ
  obtain ⟨aD, aW, aKD, aKW, aB, aN, aC, aL, aT, aP, aX, aKP, aKX⟩ := zz_aX A
  obtain ⟨bD, bW, bKD, bKW, bB, bN, bC, bL, bT, bP, bX, bKP, bKX⟩ := zz_bM hR.2.1 B
  obtain ⟨aF, aKF, aV, aKV⟩ := zy_aX2 A
  obtain ⟨bF, bKF, bV, bKV⟩ := zy_bM2 B
  have rD : zz_DX σ2 (x + 1) = zz_DM σ2 (y + 1) := by rw [aD, zz_DXk (r := x + 1) w1 (dW_200 x y hxy), zz_DMk (a := y + 1) w2 (dW_201 x y hxy), bD, hqD]
  have rB : zz_HX 0 σ2 x = zz_HM σ2 (y + 4) := by rw [aB, zz_HX.eq (f := 0) (x := x) (fun j hj => w1 _ _ ((dW_202 x y hxy) j hj)), zz_HM.eq (a := y + 4) (fun j hj => w2 _ _ ((dW_203 x y hxy) j hj)), bB, hqB]
  have rN : zz_HX 1 σ2 x = zz_HM σ2 (y + 5) := by rw [aN, zz_HX.eq (f := 1) (x := x) (fun j hj => w1 _ _ ((dW_204 x y hxy) j hj)), zz_HM.eq (a := y + 5) (fun j hj => w2 _ _ ((dW_205 x y hxy) j hj)), bN, hqN]
  have rC : zz_CX σ2 x = zz_CM σ2 (y + 6) := by rw [aC, zz_CX.eq (x := x) (fun j hj k hk => w1 _ _ ((dW_206 x y hxy) j hj k hk)), zz_CM.eq (a := y + 6) (fun k hk => w2 _ _ ((dW_207 x y hxy) k hk)), bC, hqC]
  have rL : (σ2 (x + 56) 1).toInt = (σ2 y 18).toInt := by rw [aL, congrArg Int32.toInt (w1 (x + 56) 1 (dW_208 x y hxy)), congrArg Int32.toInt (w2 y 18 (dW_209 x y hxy)), bL, hqL]
  have rT : zz_TV σ2 (x + 56 + 1) = zz_TV σ2 (y + 12) := by rw [aT, zz_TV.eq (a := x + 56 + 1) (b := x + 56 + 1) (fun k _ => w1 _ k ((dW_210 x y hxy) k)), zz_TV.eq (a := y + 12) (b := y + 12) (fun k _ => w2 _ k ((dW_211 x y hxy) k)), bT, hqT]
  have rP : zz_Tp σ2 (x + 1 + 4) (σ2 (x + 1) 9).toInt = zz_Tm σ2 (y + 1) := by rw [aP, zz_Tp.all (a := x + 1 + 4) (b := x + 1 + 4) (congrArg Int32.toInt (w1 (x + 1) 9 (dW_212 x y hxy))) (fun k => w1 _ k ((dW_213 x y hxy) k)), zz_Tm.eq (a := y + 1) (b := y + 1) (w2 (y + 1) 5 (dW_214 x y hxy)) hJ1.1.2.2.2.2.1.2 (fun k hk => w2 (y + 1) (73 + k) ((dW_215 x y hxy) k hk)), bP, hqP]
  have rX : zz_tts (zz_XT σ2 (x + 1)) (zz_MT σ2 (y + 1)) := by rw [aX, zz_XT.all (r := x + 1) (fun a ha k => w1 a k ((dW_216 x y hxy) a ha k)), zz_MT.hi (a := y + 1) (b := y + 1) (fun k hk => w2 (y + 1) k ((dW_217 x y hxy) k hk)), bX]; exact hqX
  have rF : zz_PX 1 σ2 (x + 1) = zz_PM 1 σ2 (y + 1) := by rw [aF, zz_PXk (f := 1) (r := x + 1) w1 (dW_218 x y hxy), zz_PMk (f := 1) (a := y + 1) w2 (dW_219 x y hxy), bF, hqF]
  have rV : zy_wv σ2 (x + 1 + 5) 0 (σ2 (x + 1) 11).toInt = zy_wv σ2 (y + 1) 133 (σ2 (y + 1) 6).toInt := by rw [aV, zy_wv.eq (a := x + 1 + 5) (a1 := x + 1 + 5) (b := 0) (b1 := 0) (congrArg Int32.toInt (w1 (x + 1) 11 (dW_220 x y hxy))) (fun k hk => w1 (x + 1 + 5) (0 + k) ((dW_221 x y hxy) k hk)), zy_wv.eq (a := y + 1) (a1 := y + 1) (b := 133) (b1 := 133) (congrArg Int32.toInt (w2 (y + 1) 6 (dW_222 x y hxy))) (fun k hk => w2 (y + 1) (133 + k) ((dW_223 x y hxy) k hk)), bV, hqV]
  have rG : zy_FB (zz_PM 1 σ2 (y + 1)) := by rw [zz_PMk (f := 1) (a := y + 1) w2 (dW_219 x y hxy), bF]; exact hqG
  have rK : (σ2 x 2).toInt = 0 ∨ (zz_DX σ2 (x + 28) = zz_DM σ2 (y + 2) ∧ zz_PX 0 σ2 (x + 28) = zz_PM 0 σ2 (y + 2) ∧ zz_Tp σ2 (x + 28 + 4) (σ2 (x + 28) 9).toInt = zz_Tm σ2 (y + 2) ∧ zz_tts (zz_XT σ2 (x + 28)) (zz_MT σ2 (y + 2)) ∧ zz_PX 1 σ2 (x + 28) = zz_PM 1 σ2 (y + 2) ∧ zy_FB (zz_PM 1 σ2 (y + 2)) ∧ zy_wv σ2 (x + 28 + 5) 0 (σ2 (x + 28) 11).toInt = zy_wv σ2 (y + 2) 133 (σ2 (y + 2) 6).toInt) := hqK.elim (fun q => Or.inl ((congrArg Int32.toInt ((A x 2 (by omega) (by omega)).trans (w1 x 2 (dW_196 x y hxy)))).trans q)) (fun q => Or.inr ⟨by rw [aKD, zz_DXk (r := x + 28) w1 (dW_224 x y hxy), zz_DMk (a := y + 2) w2 (dW_225 x y hxy), bKD, q.1], by rw [aKW, zz_PXk (f := 0) (r := x + 28) w1 (dW_226 x y hxy), zz_PMk (f := 0) (a := y + 2) w2 (dW_227 x y hxy), bKW, q.2.1], by rw [aKP, zz_Tp.all (a := x + 28 + 4) (b := x + 28 + 4) (congrArg Int32.toInt (w1 (x + 28) 9 (dW_228 x y hxy))) (fun k => w1 _ k ((dW_229 x y hxy) k)), zz_Tm.eq (a := y + 2) (b := y + 2) (w2 (y + 2) 5 (dW_230 x y hxy)) hJ1.2.1.2.2.2.2.1.2 (fun k hk => w2 (y + 2) (73 + k) ((dW_231 x y hxy) k hk)), bKP, q.2.2.1], by rw [aKX, zz_XT.all (r := x + 28) (fun a ha k => w1 a k ((dW_232 x y hxy) a ha k)), zz_MT.hi (a := y + 2) (b := y + 2) (fun k hk => w2 (y + 2) k ((dW_233 x y hxy) k hk)), bKX]; exact q.2.2.2.1, by rw [aKF, zz_PXk (f := 1) (r := x + 28) w1 (dW_234 x y hxy), zz_PMk (f := 1) (a := y + 2) w2 (dW_235 x y hxy), bKF, q.2.2.2.2.1], by rw [zz_PMk (f := 1) (a := y + 2) w2 (dW_235 x y hxy), bKF]; exact q.2.2.2.2.2.1, by rw [aKV, zy_wv.eq (a := x + 28 + 5) (a1 := x + 28 + 5) (b := 0) (b1 := 0) (congrArg Int32.toInt (w1 (x + 28) 11 (dW_236 x y hxy))) (fun k hk => w1 (x + 28 + 5) (0 + k) ((dW_237 x y hxy) k hk)), zy_wv.eq (a := y + 2) (a1 := y + 2) (b := 133) (b1 := 133) (congrArg Int32.toInt (w2 (y + 2) 6 (dW_238 x y hxy))) (fun k hk => w2 (y + 2) (133 + k) ((dW_239 x y hxy) k hk)), bKV, q.2.2.2.2.2.2]⟩)
  have eB : zz_HX 0 σ x = zz_HM σ1 (y + 4) := hqB.trans bB.symm
  have eN : zz_HX 1 σ x = zz_HM σ1 (y + 5) := hqN.trans bN.symm
  have eC : zz_CX σ x = zz_CM σ1 (y + 6) := hqC.trans bC.symm
  have eW : zz_PX 0 σ (x + 1) = zz_PM 0 σ1 (y + 1) := hqW.trans bW.symm
  have gc6 : (σ (x + 1) 6).toInt = (σ1 (y + 1) 3).toInt := hR.2.2.1.2.2.2.2.1.trans (congrArg Int32.toInt (B (y + 1) 3 (by omega) (by omega))).symm
  simp only [eB, eN, eC, eW, gc6] at p1
  have rB2 : zz_PX 0 σ2 (x + 1) = zz_PM 0 σ2 (y + 1) ∧ r1.toInt = r2.toInt := by
    rcases p1 with ⟨a1, a2, ea⟩ | ⟨a1, a2, a3, ea⟩ | ⟨a1, a2, a3, ea⟩
    all_goals rcases p2 with ⟨b1, b2, eb⟩ | ⟨b1, b2, b3, eb⟩ | ⟨b1, b2, b3, eb⟩
    all_goals first | (exfalso; omega) | (have hq9 : r1.toInt = r2.toInt := a3.trans b3.symm; exact ⟨by rw [aW, ea, eb, hq9], hq9⟩) | (exact ⟨by rw [aW, ea, eb], by omega⟩)
  have rW := rB2.1
  have hQ2 : zz_RD σ2 x y := ⟨rD, rW, rK, rB, rN, rC, rL, rT, rP, rX, rF, rG, rV⟩
  refine lv_pop hx hb dL_law_1249 rfl ?_
  refine lv_goto (tgt := 1384) hx hb dL_law_1250 (by decide) ?_
  exact kk _ _ _ hRL hQ2 hP hS
theorem gL_law_X8_judge : GoodIn wsL_law (wsV RL 145 RX8 yX8_judge wzX8_judge) := wz_coL bm_935 (wz_coL bm_936 (wz_coL bm_937 (wz_coL bm_2 (wz_inL bm_938))))
theorem gL_law_X9_judge : GoodIn wsL_law (wsV RL 148 RX9 yX9_judge wzX9_judge) := wz_coL bm_939 (wz_coL bm_940 (wz_coL bm_941 (wz_coL bm_5 (wz_inL bm_942))))
set_option maxHeartbeats 4000000 in
set_option maxRecDepth 100000 in
theorem lc_judge {p : Program} {l : Launch} {e : Env} {s : State} {m : MethodId} {below : List Frame} {meth : Method} {c : Code} {b L x y : Nat} {xs : Nat → Int32} {E : zz_E} {Q : State → Prop} (hA : zz_LA p s m c b L xs E x y) (i : Int32) (hi : 0 ≤ i.toInt ∧ i.toInt + 6 ≤ L) (σ : zz_S) (H : Heap) (locs : List Loc) (ls : Array Slot) (hR : zz_RL σ x y) (hQ : zz_RD σ x y) (hP : zz_P E σ H) (hS : va_S (zz_A E) s.heap H locs) (hl : lv_has ls 4 [(0, .ref b), (1, .ref x), (2, .ref y), (3, .int i)])
    (kk : ∀ (σ1 : zz_S) (H1 : Heap) (locs1 : List Loc), zz_RL σ1 x y → zz_RD σ1 x y → zz_P E σ1 H1 → va_S (zz_A E) s.heap H1 locs1 → W p l e room_1 s m #[Value.ref b] below meth c H1 locs1 600000 7302250 Q (F0 m 1384 ls [])) : W p l e room_1 s m #[Value.ref b] below meth c H locs 600000 7302250 Q (F0 m 1253 ls []) := by
  obtain ⟨hx, hb, hml, hown, hts, hX, hbl, hbE, hL, gL, gM, hxy, hK⟩ := hA
  have hbA : ¬ zz_A E b := fun h => absurd (hbE b h) (Nat.not_le.mpr hbl)
  have k_1 : (1 : Int32).toInt = 1 := by decide +kernel
  refine lv_aload_n hx hb dL_law_1253 rfl (lv_at hl 1 rfl) ?_
  refine lv_aload_n hx hb dL_law_1254 rfl (lv_at hl 0 rfl) ?_
  refine lv_iload_n hx hb dL_law_1255 rfl (lv_at hl 3 rfl) ?_
  refine lv_iconst (v := 1) hx hb dL_law_1256 (by decide) ?_
  refine lv_iadd hx hb dL_law_1257 ?_
  refine lv_topi (fun n1 e1 => ?_)
  have f1 : n1.toInt = (i).toInt + (1 : Int32).toInt := zz_addT e1 (by omega) (by omega)
  refine va_sld hx hb hX hbl hbA hS (vp_in_iff.mpr ⟨by omega, by omega⟩) dL_law_1258 ?_
  refine lv_topi (fun v2 u2 => ?_)
  refine zz_callVi (As := [.int v2]) (rest := []) ⟨hx, hb, hml, hown, hts⟩ hK hP hS (c_X8_judge l E σ x v2 gL hR.1 (zy_KK σ x y) (zy_KX hR hQ)) (cwV 1 hts gL_law_X8_judge rfl rfl rfl (by decide +kernel) ⟨Nat.le_of_ble_eq_true rfl, Nat.le_of_ble_eq_true rfl⟩) (gL.1) rfl rfl hl.1 rfl (Nat.le_of_ble_eq_true rfl) dL_law_1259 ⟨Nat.le_refl _, Nat.le_refl _⟩ (fun r1 σ1 H locs q1 hP hS => ?_)
  try dsimp only at q1
  obtain ⟨w1, p1⟩ := q1
  have B : ∀ a k : Nat, y ≤ a → a ≤ y + 12 → σ1 a k = σ a k := fun a k h1 h2 => w1 a k ((dW_55 x y hxy) a k h1 h2)
  have hJ1 : zz_IM σ1 y := hR.2.1.far B
  refine lv_pop hx hb dL_law_1262 rfl ?_
  refine lv_aload_n hx hb dL_law_1263 rfl (lv_at hl 2 rfl) ?_
  refine lv_aload_n hx hb dL_law_1264 rfl (lv_at hl 0 rfl) ?_
  refine lv_iload_n hx hb dL_law_1265 rfl (lv_at hl 3 rfl) ?_
  refine lv_iconst (v := 1) hx hb dL_law_1266 (by decide) ?_
  refine lv_iadd hx hb dL_law_1267 ?_
  refine lv_topi (fun n4 e4 => ?_)
  have f4 : n4.toInt = (i).toInt + (1 : Int32).toInt := zz_addT e4 (by omega) (by omega)
  refine va_sld hx hb hX hbl hbA hS (vp_in_iff.mpr ⟨by omega, by omega⟩) dL_law_1268 ?_
  refine lv_topi (fun v5 u5 => ?_)
  have z5 : v5 = v2 := by rw [u5, u2, e4, e1]
  have zt5 := congrArg Int32.toInt z5
  refine zz_callVi (As := [.int v5]) (rest := []) ⟨hx, hb, hml, hown, hts⟩ hK hP hS (c_X9_judge l E σ1 y v5 gM hJ1 (zy_KK σ x y) (zy_KY hR hQ B)) (cwV 1 hts gL_law_X9_judge rfl rfl rfl (by decide +kernel) ⟨Nat.le_of_ble_eq_true rfl, Nat.le_of_ble_eq_true rfl⟩) (gM.1) rfl rfl hl.1 rfl (Nat.le_of_ble_eq_true rfl) dL_law_1269 ⟨Nat.le_refl _, Nat.le_refl _⟩ (fun r2 σ2 H locs q2 hP hS => ?_)
  try dsimp only at q2
  obtain ⟨w2, p2⟩ := q2
  have A : ∀ a k : Nat, x ≤ a → a < x + 76 → σ2 a k = σ1 a k := fun a k h1 h2 => w2 a k ((dW_56 x y hxy) a k h1 h2)
  have i1 : zz_IX σ1 x := hR.1.soft (w1.mono (dW_57 x y hxy))
  have i2 : zz_IM σ2 y := hJ1.soft (w2.mono (dW_58 x y hxy))
  try simp only [z5] at p2
  have hRL : zz_RL σ2 x y := hR.soft i1 i2 A B (fun k => w1 (x + 1) k ((dW_64 x y hxy) k)) (fun k hk => w2 (y + 1) k ((dW_59 x y hxy) k hk)) (fun k => w1 (x + 28) k ((dW_60 x y hxy) k)) (w1 x 2 (dW_61 x y hxy)) (fun k => w2 (y + 2) k ((dW_62 x y hxy) k)) (w2 y 2 (dW_63 x y hxy))
  obtain ⟨hqD, hqW, hqK, hqB, hqN, hqC, hqL, hqT, hqP, hqX, hqF, hqG, hqV⟩ := hQ
  obtain ⟨aD, aW, aKD, aKW, aB, aN, aC, aL, aT, aP, aX, aKP, aKX⟩ := zz_aX A
  obtain ⟨bD, bW, bKD, bKW, bB, bN, bC, bL, bT, bP, bX, bKP, bKX⟩ := zz_bM hR.2.1 B
  obtain ⟨aF, aKF, aV, aKV⟩ := zy_aX2 A
  obtain ⟨bF, bKF, bV, bKV⟩ := zy_bM2 B
  have rD : zz_DX σ2 (x + 1) = zz_DM σ2 (y + 1) := by rw [aD, zz_DXk (r := x + 1) w1 (dW_65 x y hxy), zz_DMk (a := y + 1) w2 (dW_66 x y hxy), bD, hqD]
  have rW : zz_PX 0 σ2 (x + 1) = zz_PM 0 σ2 (y + 1) := by rw [aW, zz_PXk (f := 0) (r := x + 1) w1 (dW_67 x y hxy), zz_PMk (f := 0) (a := y + 1) w2 (dW_68 x y hxy), bW, hqW]
  have rB : zz_HX 0 σ2 x = zz_HM σ2 (y + 4) := by rw [aB, zz_HX.eq (f := 0) (x := x) (fun j hj => w1 _ _ ((dW_69 x y hxy) j hj)), zz_HM.eq (a := y + 4) (fun j hj => w2 _ _ ((dW_70 x y hxy) j hj)), bB, hqB]
  have rN : zz_HX 1 σ2 x = zz_HM σ2 (y + 5) := by rw [aN, zz_HX.eq (f := 1) (x := x) (fun j hj => w1 _ _ ((dW_69 x y hxy) j hj)), zz_HM.eq (a := y + 5) (fun j hj => w2 _ _ ((dW_71 x y hxy) j hj)), bN, hqN]
  have rC : zz_CX σ2 x = zz_CM σ2 (y + 6) := by rw [aC, zz_CX.eq (x := x) (fun j hj k hk => w1 _ _ ((dW_72 x y hxy) j hj k hk)), zz_CM.eq (a := y + 6) (fun k hk => w2 _ _ ((dW_73 x y hxy) k hk)), bC, hqC]
  have rL : (σ2 (x + 56) 1).toInt = (σ2 y 18).toInt := by rw [aL, congrArg Int32.toInt (w1 (x + 56) 1 (dW_74 x y hxy)), congrArg Int32.toInt (w2 y 18 (dW_63 x y hxy)), bL, hqL]
  have rT : zz_TV σ2 (x + 56 + 1) = zz_TV σ2 (y + 12) := by rw [aT, zz_TV.eq (a := x + 56 + 1) (b := x + 56 + 1) (fun k _ => w1 _ k ((dW_75 x y hxy) k)), zz_TV.eq (a := y + 12) (b := y + 12) (fun k _ => w2 _ k ((dW_76 x y hxy) k)), bT, hqT]
  have rP : zz_Tp σ2 (x + 1 + 4) (σ2 (x + 1) 9).toInt = zz_Tm σ2 (y + 1) := by rw [aP, zz_Tp.all (a := x + 1 + 4) (b := x + 1 + 4) (congrArg Int32.toInt (w1 (x + 1) 9 (dW_77 x y hxy))) (fun k => w1 _ k ((dW_78 x y hxy) k)), zz_Tm.eq (a := y + 1) (b := y + 1) (w2 (y + 1) 5 (dW_79 x y hxy)) hJ1.1.2.2.2.2.1.2 (fun k hk => w2 (y + 1) (73 + k) ((dW_80 x y hxy) k hk)), bP, hqP]
  have rX : zz_tts (zz_XT σ2 (x + 1)) (zz_MT σ2 (y + 1)) := by rw [aX, zz_XT.all (r := x + 1) (fun a ha k => w1 a k ((dW_81 x y hxy) a ha k)), zz_MT.hi (a := y + 1) (b := y + 1) (fun k hk => w2 (y + 1) k ((dW_82 x y hxy) k hk)), bX]; exact hqX
  have rF : zz_PX 1 σ2 (x + 1) = zz_PM 1 σ2 (y + 1) := by rw [aF, zz_PXk (f := 1) (r := x + 1) w1 (dW_67 x y hxy), zz_PMk (f := 1) (a := y + 1) w2 (dW_68 x y hxy), bF, hqF]
  have rV : zy_wv σ2 (x + 1 + 5) 0 (σ2 (x + 1) 11).toInt = zy_wv σ2 (y + 1) 133 (σ2 (y + 1) 6).toInt := by rw [aV, zy_wv.eq (a := x + 1 + 5) (a1 := x + 1 + 5) (b := 0) (b1 := 0) (congrArg Int32.toInt (w1 (x + 1) 11 (dW_77 x y hxy))) (fun k hk => w1 (x + 1 + 5) (0 + k) ((dW_83 x y hxy) k hk)), zy_wv.eq (a := y + 1) (a1 := y + 1) (b := 133) (b1 := 133) (congrArg Int32.toInt (w2 (y + 1) 6 (dW_79 x y hxy))) (fun k hk => w2 (y + 1) (133 + k) ((dW_84 x y hxy) k hk)), bV, hqV]
  have rG : zy_FB (zz_PM 1 σ2 (y + 1)) := by rw [zz_PMk (f := 1) (a := y + 1) w2 (dW_68 x y hxy), bF]; exact hqG
  have rK : (σ2 x 2).toInt = 0 ∨ (zz_DX σ2 (x + 28) = zz_DM σ2 (y + 2) ∧ zz_PX 0 σ2 (x + 28) = zz_PM 0 σ2 (y + 2) ∧ zz_Tp σ2 (x + 28 + 4) (σ2 (x + 28) 9).toInt = zz_Tm σ2 (y + 2) ∧ zz_tts (zz_XT σ2 (x + 28)) (zz_MT σ2 (y + 2)) ∧ zz_PX 1 σ2 (x + 28) = zz_PM 1 σ2 (y + 2) ∧ zy_FB (zz_PM 1 σ2 (y + 2)) ∧ zy_wv σ2 (x + 28 + 5) 0 (σ2 (x + 28) 11).toInt = zy_wv σ2 (y + 2) 133 (σ2 (y + 2) 6).toInt) := hqK.elim (fun q => Or.inl ((congrArg Int32.toInt ((A x 2 (by omega) (by omega)).trans (w1 x 2 (dW_61 x y hxy)))).trans q)) (fun q => Or.inr ⟨by rw [aKD, zz_DXk (r := x + 28) w1 (dW_85 x y hxy), zz_DMk (a := y + 2) w2 (dW_86 x y hxy), bKD, q.1], by rw [aKW, zz_PXk (f := 0) (r := x + 28) w1 (dW_87 x y hxy), zz_PMk (f := 0) (a := y + 2) w2 (dW_88 x y hxy), bKW, q.2.1], by rw [aKP, zz_Tp.all (a := x + 28 + 4) (b := x + 28 + 4) (congrArg Int32.toInt (w1 (x + 28) 9 (dW_89 x y hxy))) (fun k => w1 _ k ((dW_90 x y hxy) k)), zz_Tm.eq (a := y + 2) (b := y + 2) (w2 (y + 2) 5 (dW_91 x y hxy)) hJ1.2.1.2.2.2.2.1.2 (fun k hk => w2 (y + 2) (73 + k) ((dW_92 x y hxy) k hk)), bKP, q.2.2.1], by rw [aKX, zz_XT.all (r := x + 28) (fun a ha k => w1 a k ((dW_93 x y hxy) a ha k)), zz_MT.hi (a := y + 2) (b := y + 2) (fun k hk => w2 (y + 2) k ((dW_94 x y hxy) k hk)), bKX]; exact q.2.2.2.1, by rw [aKF, zz_PXk (f := 1) (r := x + 28) w1 (dW_87 x y hxy), zz_PMk (f := 1) (a := y + 2) w2 (dW_88 x y hxy), bKF, q.2.2.2.2.1], by rw [zz_PMk (f := 1) (a := y + 2) w2 (dW_88 x y hxy), bKF]; exact q.2.2.2.2.2.1, by rw [aKV, zy_wv.eq (a := x + 28 + 5) (a1 := x + 28 + 5) (b := 0) (b1 := 0) (congrArg Int32.toInt (w1 (x + 28) 11 (dW_89 x y hxy))) (fun k hk => w1 (x + 28 + 5) (0 + k) ((dW_95 x y hxy) k hk)), zy_wv.eq (a := y + 2) (a1 := y + 2) (b := 133) (b1 := 133) (congrArg Int32.toInt (w2 (y + 2) 6 (dW_91 x y hxy))) (fun k hk => w2 (y + 2) (133 + k) ((dW_96 x y hxy) k hk)), bKV, q.2.2.2.2.2.2]⟩)
  have hQ2 : zz_RD σ2 x y := ⟨rD, rW, rK, rB, rN, rC, rL, rT, rP, rX, rF, rG, rV⟩
  refine lv_pop hx hb dL_law_1272 rfl ?_
  refine lv_goto (tgt := 1384) hx hb dL_law_1273 (by decide) ?_
  exact kk _ _ _ hRL hQ2 hP hS
theorem gL_law_X8_image : GoodIn wsL_law (wsV RL 149 RX8 yX8_image wzX8_image) := wz_coL bm_943 (wz_coL bm_944 (wz_coL bm_945 (wz_coL bm_2 (wz_inL bm_946))))
theorem gL_law_X9_image : GoodIn wsL_law (wsV RL 153 RX9 yX9_image wzX9_image) := wz_coL bm_970 (wz_coL bm_971 (wz_coL bm_972 (wz_coL bm_5 (wz_inL bm_973))))
theorem dW_716 (x y : Nat) (hxy : x + 76 ≤ y) : ∀ a k : Nat, y ≤ a → a ≤ y + 12 → ¬ ((a) = (x) + 24 ∨ (a) = (x) + 27 ∨ ((x) + 58 ≤ (a) ∧ (a) ≤ (x) + 67) ∨ (a) = (x) ∨ ((x) + 28 ≤ (a) ∧ (a) < (x) + 55)) := by intros; omega
theorem dW_717 (x y : Nat) (hxy : x + 76 ≤ y) : ∀ a k : Nat, x ≤ a → a < x + 76 → ¬ (((a) = (y) + 3 ∨ ((y) + 7 ≤ (a) ∧ (a) ≤ (y) + 11)) ∨ ((a) = (y) ∧ (k) = 2) ∨ (a) = (y) + 2) := by intros; omega
theorem dW_718 (x y : Nat) (hxy : x + 76 ≤ y) : ∀ j : Nat, j < 9 → ∀ k : Nat, k < 6 → ¬ (((x + 1 + 6 + 1 * j)) = (x) + 24 ∨ ((x + 1 + 6 + 1 * j)) = (x) + 27 ∨ ((x) + 58 ≤ ((x + 1 + 6 + 1 * j)) ∧ ((x + 1 + 6 + 1 * j)) ≤ (x) + 67) ∨ ((x + 1 + 6 + 1 * j)) = (x) ∨ ((x) + 28 ≤ ((x + 1 + 6 + 1 * j)) ∧ ((x + 1 + 6 + 1 * j)) < (x) + 55)) := by intros; omega
theorem dW_719 (x y : Nat) (hxy : x + 76 ≤ y) : ∀ k : Nat, 7 ≤ k → k < 61 → ¬ ((((y + 1)) = (y) + 3 ∨ ((y) + 7 ≤ ((y + 1)) ∧ ((y + 1)) ≤ (y) + 11)) ∨ (((y + 1)) = (y) ∧ (k) = 2) ∨ ((y + 1)) = (y) + 2) := by intros; omega
theorem dW_720 (x y : Nat) (hxy : x + 76 ≤ y) : ∀ j : Nat, j < 6 → ¬ (((x + 1 + 15 + 1 * j)) = (x) + 24 ∨ ((x + 1 + 15 + 1 * j)) = (x) + 27 ∨ ((x) + 58 ≤ ((x + 1 + 15 + 1 * j)) ∧ ((x + 1 + 15 + 1 * j)) ≤ (x) + 67) ∨ ((x + 1 + 15 + 1 * j)) = (x) ∨ ((x) + 28 ≤ ((x + 1 + 15 + 1 * j)) ∧ ((x + 1 + 15 + 1 * j)) < (x) + 55)) := by intros; omega
theorem dW_721 (x y : Nat) (hxy : x + 76 ≤ y) : ∀ j : Nat, j < 6 → ¬ ((((y + 1)) = (y) + 3 ∨ ((y) + 7 ≤ ((y + 1)) ∧ ((y + 1)) ≤ (y) + 11)) ∨ (((y + 1)) = (y) ∧ ((61 + 2 * j + 0)) = 2) ∨ ((y + 1)) = (y) + 2) := by intros; omega
theorem dW_722 (x y : Nat) (hxy : x + 76 ≤ y) : ∀ j : Nat, j < 4 → ¬ (((x + 68 + 2 * j)) = (x) + 24 ∨ ((x + 68 + 2 * j)) = (x) + 27 ∨ ((x) + 58 ≤ ((x + 68 + 2 * j)) ∧ ((x + 68 + 2 * j)) ≤ (x) + 67) ∨ ((x + 68 + 2 * j)) = (x) ∨ ((x) + 28 ≤ ((x + 68 + 2 * j)) ∧ ((x + 68 + 2 * j)) < (x) + 55)) := by intros; omega
theorem dW_723 (x y : Nat) (hxy : x + 76 ≤ y) : ∀ j : Nat, j < 4 → ¬ ((((y + 4)) = (y) + 3 ∨ ((y) + 7 ≤ ((y + 4)) ∧ ((y + 4)) ≤ (y) + 11)) ∨ (((y + 4)) = (y) ∧ (j) = 2) ∨ ((y + 4)) = (y) + 2) := by intros; omega
theorem dW_724 (x y : Nat) (hxy : x + 76 ≤ y) : ∀ j : Nat, j < 4 → ¬ ((((y + 5)) = (y) + 3 ∨ ((y) + 7 ≤ ((y + 5)) ∧ ((y + 5)) ≤ (y) + 11)) ∨ (((y + 5)) = (y) ∧ (j) = 2) ∨ ((y + 5)) = (y) + 2) := by intros; omega
theorem dW_725 (x y : Nat) (hxy : x + 76 ≤ y) : ∀ j : Nat, j < 4 → ∀ k : Nat, k < 24 → ¬ (((x + 68 + 2 * j + 1)) = (x) + 24 ∨ ((x + 68 + 2 * j + 1)) = (x) + 27 ∨ ((x) + 58 ≤ ((x + 68 + 2 * j + 1)) ∧ ((x + 68 + 2 * j + 1)) ≤ (x) + 67) ∨ ((x + 68 + 2 * j + 1)) = (x) ∨ ((x) + 28 ≤ ((x + 68 + 2 * j + 1)) ∧ ((x + 68 + 2 * j + 1)) < (x) + 55)) := by intros; omega
theorem dW_726 (x y : Nat) (hxy : x + 76 ≤ y) : ∀ k : Nat, k < 96 → ¬ ((((y + 6)) = (y) + 3 ∨ ((y) + 7 ≤ ((y + 6)) ∧ ((y + 6)) ≤ (y) + 11)) ∨ (((y + 6)) = (y) ∧ (k) = 2) ∨ ((y + 6)) = (y) + 2) := by intros; omega
theorem dW_727 (x y : Nat) (hxy : x + 76 ≤ y) : ¬ (((x + 56)) = (x) + 24 ∨ ((x + 56)) = (x) + 27 ∨ ((x) + 58 ≤ ((x + 56)) ∧ ((x + 56)) ≤ (x) + 67) ∨ ((x + 56)) = (x) ∨ ((x) + 28 ≤ ((x + 56)) ∧ ((x + 56)) < (x) + 55)) := by omega
theorem dW_728 (x y : Nat) (hxy : x + 76 ≤ y) : ¬ (((y) = (y) + 3 ∨ ((y) + 7 ≤ (y) ∧ (y) ≤ (y) + 11)) ∨ ((y) = (y) ∧ (18) = 2) ∨ (y) = (y) + 2) := by omega
theorem dW_729 (x y : Nat) (hxy : x + 76 ≤ y) : ∀ k : Nat, ¬ (((x + 56 + 1)) = (x) + 24 ∨ ((x + 56 + 1)) = (x) + 27 ∨ ((x) + 58 ≤ ((x + 56 + 1)) ∧ ((x + 56 + 1)) ≤ (x) + 67) ∨ ((x + 56 + 1)) = (x) ∨ ((x) + 28 ≤ ((x + 56 + 1)) ∧ ((x + 56 + 1)) < (x) + 55)) := by intros; omega
theorem dW_730 (x y : Nat) (hxy : x + 76 ≤ y) : ∀ k : Nat, ¬ ((((y + 12)) = (y) + 3 ∨ ((y) + 7 ≤ ((y + 12)) ∧ ((y + 12)) ≤ (y) + 11)) ∨ (((y + 12)) = (y) ∧ (k) = 2) ∨ ((y + 12)) = (y) + 2) := by intros; omega
theorem dW_731 (x y : Nat) (hxy : x + 76 ≤ y) : ¬ (((x + 1)) = (x) + 24 ∨ ((x + 1)) = (x) + 27 ∨ ((x) + 58 ≤ ((x + 1)) ∧ ((x + 1)) ≤ (x) + 67) ∨ ((x + 1)) = (x) ∨ ((x) + 28 ≤ ((x + 1)) ∧ ((x + 1)) < (x) + 55)) := by omega
theorem dW_732 (x y : Nat) (hxy : x + 76 ≤ y) : ∀ k : Nat, ¬ (((x + 1 + 4)) = (x) + 24 ∨ ((x + 1 + 4)) = (x) + 27 ∨ ((x) + 58 ≤ ((x + 1 + 4)) ∧ ((x + 1 + 4)) ≤ (x) + 67) ∨ ((x + 1 + 4)) = (x) ∨ ((x) + 28 ≤ ((x + 1 + 4)) ∧ ((x + 1 + 4)) < (x) + 55)) := by intros; omega
theorem dW_733 (x y : Nat) (hxy : x + 76 ≤ y) : ¬ ((((y + 1)) = (y) + 3 ∨ ((y) + 7 ≤ ((y + 1)) ∧ ((y + 1)) ≤ (y) + 11)) ∨ (((y + 1)) = (y) ∧ (5) = 2) ∨ ((y + 1)) = (y) + 2) := by omega
theorem dW_734 (x y : Nat) (hxy : x + 76 ≤ y) : ∀ k : Nat, k < 60 → ¬ ((((y + 1)) = (y) + 3 ∨ ((y) + 7 ≤ ((y + 1)) ∧ ((y + 1)) ≤ (y) + 11)) ∨ (((y + 1)) = (y) ∧ ((73 + k)) = 2) ∨ ((y + 1)) = (y) + 2) := by intros; omega
theorem dW_735 (x y : Nat) (hxy : x + 76 ≤ y) : ∀ a : Nat, (a = x + 1 + 21 ∨ a = x + 1 + 22 ∨ a = x + 1 + 24 ∨ a = x + 1 + 25) → ∀ k : Nat, ¬ ((a) = (x) + 24 ∨ (a) = (x) + 27 ∨ ((x) + 58 ≤ (a) ∧ (a) ≤ (x) + 67) ∨ (a) = (x) ∨ ((x) + 28 ≤ (a) ∧ (a) < (x) + 55)) := by intros; omega
theorem dW_736 (x y : Nat) (hxy : x + 76 ≤ y) : ∀ k : Nat, 157 ≤ k → ¬ ((((y + 1)) = (y) + 3 ∨ ((y) + 7 ≤ ((y + 1)) ∧ ((y + 1)) ≤ (y) + 11)) ∨ (((y + 1)) = (y) ∧ (k) = 2) ∨ ((y + 1)) = (y) + 2) := by intros; omega
theorem dW_737 (x y : Nat) (hxy : x + 76 ≤ y) : ∀ j : Nat, j < 6 → ¬ ((((y + 1)) = (y) + 3 ∨ ((y) + 7 ≤ ((y + 1)) ∧ ((y + 1)) ≤ (y) + 11)) ∨ (((y + 1)) = (y) ∧ ((61 + 2 * j + 1)) = 2) ∨ ((y + 1)) = (y) + 2) := by intros; omega
theorem dW_738 (x y : Nat) (hxy : x + 76 ≤ y) : ∀ k : Nat, k < 24 → ¬ (((x + 1 + 5)) = (x) + 24 ∨ ((x + 1 + 5)) = (x) + 27 ∨ ((x) + 58 ≤ ((x + 1 + 5)) ∧ ((x + 1 + 5)) ≤ (x) + 67) ∨ ((x + 1 + 5)) = (x) ∨ ((x) + 28 ≤ ((x + 1 + 5)) ∧ ((x + 1 + 5)) < (x) + 55)) := by intros; omega
theorem dW_739 (x y : Nat) (hxy : x + 76 ≤ y) : ¬ ((((y + 1)) = (y) + 3 ∨ ((y) + 7 ≤ ((y + 1)) ∧ ((y + 1)) ≤ (y) + 11)) ∨ (((y + 1)) = (y) ∧ (6) = 2) ∨ ((y + 1)) = (y) + 2) := by omega
theorem dW_740 (x y : Nat) (hxy : x + 76 ≤ y) : ∀ k : Nat, k < 24 → ¬ ((((y + 1)) = (y) + 3 ∨ ((y) + 7 ≤ ((y + 1)) ∧ ((y + 1)) ≤ (y) + 11)) ∨ (((y + 1)) = (y) ∧ ((133 + k)) = 2) ∨ ((y + 1)) = (y) + 2) := by intros; omega
set_option maxHeartbeats 4000000 in
set_option maxRecDepth 100000 in
theorem lc_image {p : Program} {l : Launch} {e : Env} {s : State} {m : MethodId} {below : List Frame} {meth : Method} {c : Code} {b L x y : Nat} {xs : Nat → Int32} {E : zz_E} {Q : State → Prop} (hA : zz_LA p s m c b L xs E x y) (i : Int32) (hi : 0 ≤ i.toInt ∧ i.toInt + 6 ≤ L) (σ : zz_S) (H : Heap) (locs : List Loc) (ls : Array Slot) (hR : zz_RL σ x y) (hQ : zz_RD σ x y) (hP : zz_P E σ H) (hS : va_S (zz_A E) s.heap H locs) (hl : lv_has ls 4 [(0, .ref b), (1, .ref x), (2, .ref y), (3, .int i)])
    (kk : ∀ (σ1 : zz_S) (H1 : Heap) (locs1 : List Loc), zz_RL σ1 x y → zz_RD σ1 x y → zz_P E σ1 H1 → va_S (zz_A E) s.heap H1 locs1 → W p l e room_1 s m #[Value.ref b] below meth c H1 locs1 600000 7302250 Q (F0 m 1384 ls [])) : W p l e room_1 s m #[Value.ref b] below meth c H locs 600000 7302250 Q (F0 m 1276 ls []) := by
  obtain ⟨hx, hb, hml, hown, hts, hX, hbl, hbE, hL, gL, gM, hxy, hK⟩ := hA
  have hbA : ¬ zz_A E b := fun h => absurd (hbE b h) (Nat.not_le.mpr hbl)
  refine lv_aload_n hx hb dL_law_1276 rfl (lv_at hl 1 rfl) ?_
  refine zz_callVi (As := []) (rest := []) ⟨hx, hb, hml, hown, hts⟩ hK hP hS (c_X8_image l E σ x gL hR.1) (cwV 0 hts gL_law_X8_image rfl rfl rfl (by decide +kernel) ⟨Nat.le_of_ble_eq_true rfl, Nat.le_of_ble_eq_true rfl⟩) (gL.1) rfl rfl hl.1 rfl (Nat.le_of_ble_eq_true rfl) dL_law_1277 ⟨Nat.le_refl _, Nat.le_refl _⟩ (fun r1 σ1 H locs q1 hP hS => ?_)
  try dsimp only at q1
  obtain ⟨w1, p1⟩ := q1
  have B : ∀ a k : Nat, y ≤ a → a ≤ y + 12 → σ1 a k = σ a k := fun a k h1 h2 => w1 a k ((dW_716 x y hxy) a k h1 h2)
  have hJ1 : zz_IM σ1 y := hR.2.1.far B
  refine lv_pop hx hb dL_law_1280 rfl ?_
  refine lv_aload_n hx hb dL_law_1281 rfl (lv_at hl 2 rfl) ?_
  refine zz_callVi (As := []) (rest := []) ⟨hx, hb, hml, hown, hts⟩ hK hP hS (c_X9_image l E σ1 y gM hJ1) (cwV 0 hts gL_law_X9_image rfl rfl rfl (by decide +kernel) ⟨Nat.le_of_ble_eq_true rfl, Nat.le_of_ble_eq_true rfl⟩) (gM.1) rfl rfl hl.1 rfl (Nat.le_of_ble_eq_true rfl) dL_law_1282 ⟨Nat.le_refl _, Nat.le_refl _⟩ (fun r2 σ2 H locs q2 hP hS => ?_)
  try dsimp only at q2
  obtain ⟨w2, p2⟩ := q2
  have A : ∀ a k : Nat, x ≤ a → a < x + 76 → σ2 a k = σ1 a k := fun a k h1 h2 => w2 a k ((dW_717 x y hxy) a k h1 h2)
  obtain ⟨i1, p1⟩ := p1
  obtain ⟨i2, p2⟩ := p2
  obtain ⟨hqD, hqW, hqK, hqB, hqN, hqC, hqL, hqT, hqP, hqX, hqF, hqG, hqV⟩ := hQ
  obtain ⟨aD, aW, aKD, aKW, aB, aN, aC, aL, aT, aP, aX, aKP, aKX⟩ := zz_aX A
  obtain ⟨bD, bW, bKD, bKW, bB, bN, bC, bL, bT, bP, bX, bKP, bKX⟩ := zz_bM hR.2.1 B
  obtain ⟨aF, aKF, aV, aKV⟩ := zy_aX2 A
  obtain ⟨bF, bKF, bV, bKV⟩ := zy_bM2 B
  obtain ⟨-, -, hr, hk, hm⟩ := hR
  obtain ⟨pr1, pi1, pa⟩ := p1
  obtain ⟨pr2, pi2, pb⟩ := p2
  have hs : zz_RR σ2 (x + 28) (y + 2) := ⟨by rw [A (x + 28) 0 (by omega) (by omega), pa.1, pb 0 (by omega), B (y + 1) 0 (by omega) (by omega)]; exact hr.1, by rw [A (x + 28) 1 (by omega) (by omega), pa.2.1, pb 4 (by omega), B (y + 1) 4 (by omega) (by omega)]; exact hr.2.1, by rw [A (x + 28) 2 (by omega) (by omega), pa.2.2.1, pb 1 (by omega), B (y + 1) 1 (by omega) (by omega)]; exact hr.2.2.1, by rw [A (x + 28) 4 (by omega) (by omega), pa.2.2.2.1, pb 2 (by omega), B (y + 1) 2 (by omega) (by omega)]; exact hr.2.2.2.1, by rw [A (x + 28) 6 (by omega) (by omega), pa.2.2.2.2.1, pb 3 (by omega), B (y + 1) 3 (by omega) (by omega)]; exact hr.2.2.2.2.1, by rw [A (x + 28) 9 (by omega) (by omega), pa.2.2.2.2.2.1, pb 5 (by omega), B (y + 1) 5 (by omega) (by omega)]; exact hr.2.2.2.2.2.1, by rw [A (x + 28) 11 (by omega) (by omega), pa.2.2.2.2.2.2.1, pb 6 (by omega), B (y + 1) 6 (by omega) (by omega)]; exact hr.2.2.2.2.2.2⟩
  have hn : zz_RR σ2 (x + 1) (y + 1) := hr.keep7 (fun k _ => (A _ k (by omega) (by omega)).trans (w1 (x + 1) k (by first | omega | (dsimp only; omega)))) (fun k _ => (w2 (y + 1) k (by first | omega | (dsimp only; omega))).trans (B _ k (by omega) (by omega)))
  have hm2 : (σ2 x 2).toInt = (σ2 y 2).toInt := by rw [A x 2 (by omega) (by omega), pi1, pi2, B y 2 (by omega) (by omega), zz_ext hm]
  have hRL : zz_RL σ2 x y := ⟨i1.far A, i2, hn, Or.inr hs, hm2⟩
  have rD : zz_DX σ2 (x + 1) = zz_DM σ2 (y + 1) := by rw [aD, zz_DXk (r := x + 1) w1 (dW_718 x y hxy), zz_DMk (a := y + 1) w2 (dW_719 x y hxy), bD, hqD]
  have rW : zz_PX 0 σ2 (x + 1) = zz_PM 0 σ2 (y + 1) := by rw [aW, zz_PXk (f := 0) (r := x + 1) w1 (dW_720 x y hxy), zz_PMk (f := 0) (a := y + 1) w2 (dW_721 x y hxy), bW, hqW]
  have rB : zz_HX 0 σ2 x = zz_HM σ2 (y + 4) := by rw [aB, zz_HX.eq (f := 0) (x := x) (fun j hj => w1 _ _ ((dW_722 x y hxy) j hj)), zz_HM.eq (a := y + 4) (fun j hj => w2 _ _ ((dW_723 x y hxy) j hj)), bB, hqB]
  have rN : zz_HX 1 σ2 x = zz_HM σ2 (y + 5) := by rw [aN, zz_HX.eq (f := 1) (x := x) (fun j hj => w1 _ _ ((dW_722 x y hxy) j hj)), zz_HM.eq (a := y + 5) (fun j hj => w2 _ _ ((dW_724 x y hxy) j hj)), bN, hqN]
  have rC : zz_CX σ2 x = zz_CM σ2 (y + 6) := by rw [aC, zz_CX.eq (x := x) (fun j hj k hk => w1 _ _ ((dW_725 x y hxy) j hj k hk)), zz_CM.eq (a := y + 6) (fun k hk => w2 _ _ ((dW_726 x y hxy) k hk)), bC, hqC]
  have rL : (σ2 (x + 56) 1).toInt = (σ2 y 18).toInt := by rw [aL, congrArg Int32.toInt (w1 (x + 56) 1 (dW_727 x y hxy)), congrArg Int32.toInt (w2 y 18 (dW_728 x y hxy)), bL, hqL]
  have rT : zz_TV σ2 (x + 56 + 1) = zz_TV σ2 (y + 12) := by rw [aT, zz_TV.eq (a := x + 56 + 1) (b := x + 56 + 1) (fun k _ => w1 _ k ((dW_729 x y hxy) k)), zz_TV.eq (a := y + 12) (b := y + 12) (fun k _ => w2 _ k ((dW_730 x y hxy) k)), bT, hqT]
  have rP : zz_Tp σ2 (x + 1 + 4) (σ2 (x + 1) 9).toInt = zz_Tm σ2 (y + 1) := by rw [aP, zz_Tp.all (a := x + 1 + 4) (b := x + 1 + 4) (congrArg Int32.toInt (w1 (x + 1) 9 (dW_731 x y hxy))) (fun k => w1 _ k ((dW_732 x y hxy) k)), zz_Tm.eq (a := y + 1) (b := y + 1) (w2 (y + 1) 5 (dW_733 x y hxy)) hJ1.1.2.2.2.2.1.2 (fun k hk => w2 (y + 1) (73 + k) ((dW_734 x y hxy) k hk)), bP, hqP]
  have rX : zz_tts (zz_XT σ2 (x + 1)) (zz_MT σ2 (y + 1)) := by rw [aX, zz_XT.all (r := x + 1) (fun a ha k => w1 a k ((dW_735 x y hxy) a ha k)), zz_MT.hi (a := y + 1) (b := y + 1) (fun k hk => w2 (y + 1) k ((dW_736 x y hxy) k hk)), bX]; exact hqX
  have rF : zz_PX 1 σ2 (x + 1) = zz_PM 1 σ2 (y + 1) := by rw [aF, zz_PXk (f := 1) (r := x + 1) w1 (dW_720 x y hxy), zz_PMk (f := 1) (a := y + 1) w2 (dW_737 x y hxy), bF, hqF]
  have rG : zy_FB (zz_PM 1 σ2 (y + 1)) := by rw [zz_PMk (f := 1) (a := y + 1) w2 (dW_737 x y hxy), bF]; exact hqG
  have rV : zy_wv σ2 (x + 1 + 5) 0 (σ2 (x + 1) 11).toInt = zy_wv σ2 (y + 1) 133 (σ2 (y + 1) 6).toInt := by rw [aV, zy_wv.eq (a := x + 1 + 5) (a1 := x + 1 + 5) (b := 0) (b1 := 0) (congrArg Int32.toInt (w1 (x + 1) 11 (dW_731 x y hxy))) (fun k hk => w1 (x + 1 + 5) (0 + k) ((dW_738 x y hxy) k hk)), zy_wv.eq (a := y + 1) (a1 := y + 1) (b := 133) (b1 := 133) (congrArg Int32.toInt (w2 (y + 1) 6 (dW_739 x y hxy))) (fun k hk => w2 (y + 1) (133 + k) ((dW_740 x y hxy) k hk)), bV, hqV]
  have hQ2 : zz_RD σ2 x y := ⟨rD, rW, Or.inr ⟨by rw [aKD, pa.2.2.2.2.2.2.2.1, zz_DM.eq (fun k _ h2 => pb k (by omega)), bD, hqD], by rw [aKW, pa.2.2.2.2.2.2.2.2.1, zz_PM.eq (fun j hj => pb _ (by omega)), bW, hqW], by rw [aKP, pa.2.2.2.2.2.2.2.2.2.2.2.1, zz_Tm.eq (pb _ (by omega)) hJ1.1.2.2.2.2.1.2 (fun k hk => pb _ (by omega)), bP, hqP], by rw [aKX, pa.2.2.2.2.2.2.2.2.2.2.1, zz_MT.eq (fun k _ h2 => pb k h2) (fun u hu => (hJ1.1.2.2.2.2.2.2.2 u hu).1.2), bX]; exact hqX, by rw [aKF, pa.2.2.2.2.2.2.2.2.2.1, zz_PM.eq (fun j hj => pb _ (by omega)), bF, hqF], by rw [zz_PM.eq (a := y + 1) (f := 1) (fun j hj => pb _ (by omega)), bF]; exact hqG, by rw [aKV, pa.2.2.2.2.2.2.2.2.2.2.2.2, zy_wv.eq (a := y + 1) (a1 := y + 2) (congrArg Int32.toInt (pb 6 (by omega))) (fun k hk => pb _ (by omega)), bV, hqV]⟩, rB, rN, rC, rL, rT, rP, rX, rF, rG, rV⟩
  refine lv_pop hx hb dL_law_1285 rfl ?_
  refine lv_goto (tgt := 1384) hx hb dL_law_1286 (by decide) ?_
  exact kk _ _ _ hRL hQ2 hP hS
theorem gL_law_X8_restore : GoodIn wsL_law (wsV RL 154 RX8 yX8_restore wzX8_restore) := wz_coL bm_978 (wz_coL bm_979 (wz_coL bm_980 (wz_coL bm_2 (wz_inL bm_981))))
theorem gL_law_X9_restore : GoodIn wsL_law (wsV RL 157 RX9 yX9_restore wzX9_restore) := wz_coL bm_982 (wz_coL bm_983 (wz_coL bm_984 (wz_coL bm_5 (wz_inL bm_985))))
theorem dW_741 (x y : Nat) (hxy : x + 76 ≤ y) : ∀ a k : Nat, y ≤ a → a ≤ y + 12 → ¬ ((a) = (x) + 24 ∨ (a) = (x) + 27 ∨ ((x) + 58 ≤ (a) ∧ (a) ≤ (x) + 67) ∨ ((x) + 1 ≤ (a) ∧ (a) < (x) + 28)) := by intros; omega
theorem dW_742 (x y : Nat) (hxy : x + 76 ≤ y) : ∀ a k : Nat, x ≤ a → a < x + 76 → ¬ (((a) = (y) + 3 ∨ ((y) + 7 ≤ (a) ∧ (a) ≤ (y) + 11)) ∨ (a) = (y) + 1) := by intros; omega
theorem dW_743 (x y : Nat) (hxy : x + 76 ≤ y) : ∀ j : Nat, j < 4 → ¬ (((x + 68 + 2 * j)) = (x) + 24 ∨ ((x + 68 + 2 * j)) = (x) + 27 ∨ ((x) + 58 ≤ ((x + 68 + 2 * j)) ∧ ((x + 68 + 2 * j)) ≤ (x) + 67) ∨ ((x) + 1 ≤ ((x + 68 + 2 * j)) ∧ ((x + 68 + 2 * j)) < (x) + 28)) := by intros; omega
theorem dW_744 (x y : Nat) (hxy : x + 76 ≤ y) : ∀ j : Nat, j < 4 → ¬ ((((y + 4)) = (y) + 3 ∨ ((y) + 7 ≤ ((y + 4)) ∧ ((y + 4)) ≤ (y) + 11)) ∨ ((y + 4)) = (y) + 1) := by intros; omega
theorem dW_745 (x y : Nat) (hxy : x + 76 ≤ y) : ∀ j : Nat, j < 4 → ¬ ((((y + 5)) = (y) + 3 ∨ ((y) + 7 ≤ ((y + 5)) ∧ ((y + 5)) ≤ (y) + 11)) ∨ ((y + 5)) = (y) + 1) := by intros; omega
theorem dW_746 (x y : Nat) (hxy : x + 76 ≤ y) : ∀ j : Nat, j < 4 → ∀ k : Nat, k < 24 → ¬ (((x + 68 + 2 * j + 1)) = (x) + 24 ∨ ((x + 68 + 2 * j + 1)) = (x) + 27 ∨ ((x) + 58 ≤ ((x + 68 + 2 * j + 1)) ∧ ((x + 68 + 2 * j + 1)) ≤ (x) + 67) ∨ ((x) + 1 ≤ ((x + 68 + 2 * j + 1)) ∧ ((x + 68 + 2 * j + 1)) < (x) + 28)) := by intros; omega
theorem dW_747 (x y : Nat) (hxy : x + 76 ≤ y) : ∀ k : Nat, k < 96 → ¬ ((((y + 6)) = (y) + 3 ∨ ((y) + 7 ≤ ((y + 6)) ∧ ((y + 6)) ≤ (y) + 11)) ∨ ((y + 6)) = (y) + 1) := by intros; omega
theorem dW_748 (x y : Nat) (hxy : x + 76 ≤ y) : ¬ (((x + 56)) = (x) + 24 ∨ ((x + 56)) = (x) + 27 ∨ ((x) + 58 ≤ ((x + 56)) ∧ ((x + 56)) ≤ (x) + 67) ∨ ((x) + 1 ≤ ((x + 56)) ∧ ((x + 56)) < (x) + 28)) := by omega
theorem dW_749 (x y : Nat) (hxy : x + 76 ≤ y) : ¬ (((y) = (y) + 3 ∨ ((y) + 7 ≤ (y) ∧ (y) ≤ (y) + 11)) ∨ (y) = (y) + 1) := by omega
theorem dW_750 (x y : Nat) (hxy : x + 76 ≤ y) : ∀ k : Nat, ¬ (((x + 56 + 1)) = (x) + 24 ∨ ((x + 56 + 1)) = (x) + 27 ∨ ((x) + 58 ≤ ((x + 56 + 1)) ∧ ((x + 56 + 1)) ≤ (x) + 67) ∨ ((x) + 1 ≤ ((x + 56 + 1)) ∧ ((x + 56 + 1)) < (x) + 28)) := by intros; omega
theorem dW_751 (x y : Nat) (hxy : x + 76 ≤ y) : ∀ k : Nat, ¬ ((((y + 12)) = (y) + 3 ∨ ((y) + 7 ≤ ((y + 12)) ∧ ((y + 12)) ≤ (y) + 11)) ∨ ((y + 12)) = (y) + 1) := by intros; omega
theorem dW_752 (x y : Nat) (hxy : x + 76 ≤ y) : ∀ j : Nat, j < 9 → ∀ k : Nat, k < 6 → ¬ (((x + 28 + 6 + 1 * j)) = (x) + 24 ∨ ((x + 28 + 6 + 1 * j)) = (x) + 27 ∨ ((x) + 58 ≤ ((x + 28 + 6 + 1 * j)) ∧ ((x + 28 + 6 + 1 * j)) ≤ (x) + 67) ∨ ((x) + 1 ≤ ((x + 28 + 6 + 1 * j)) ∧ ((x + 28 + 6 + 1 * j)) < (x) + 28)) := by intros; omega
theorem dW_753 (x y : Nat) (hxy : x + 76 ≤ y) : ∀ k : Nat, 7 ≤ k → k < 61 → ¬ ((((y + 2)) = (y) + 3 ∨ ((y) + 7 ≤ ((y + 2)) ∧ ((y + 2)) ≤ (y) + 11)) ∨ ((y + 2)) = (y) + 1) := by intros; omega
theorem dW_754 (x y : Nat) (hxy : x + 76 ≤ y) : ∀ j : Nat, j < 6 → ¬ (((x + 28 + 15 + 1 * j)) = (x) + 24 ∨ ((x + 28 + 15 + 1 * j)) = (x) + 27 ∨ ((x) + 58 ≤ ((x + 28 + 15 + 1 * j)) ∧ ((x + 28 + 15 + 1 * j)) ≤ (x) + 67) ∨ ((x) + 1 ≤ ((x + 28 + 15 + 1 * j)) ∧ ((x + 28 + 15 + 1 * j)) < (x) + 28)) := by intros; omega
theorem dW_755 (x y : Nat) (hxy : x + 76 ≤ y) : ∀ j : Nat, j < 6 → ¬ ((((y + 2)) = (y) + 3 ∨ ((y) + 7 ≤ ((y + 2)) ∧ ((y + 2)) ≤ (y) + 11)) ∨ ((y + 2)) = (y) + 1) := by intros; omega
theorem dW_756 (x y : Nat) (hxy : x + 76 ≤ y) : ¬ (((x + 28)) = (x) + 24 ∨ ((x + 28)) = (x) + 27 ∨ ((x) + 58 ≤ ((x + 28)) ∧ ((x + 28)) ≤ (x) + 67) ∨ ((x) + 1 ≤ ((x + 28)) ∧ ((x + 28)) < (x) + 28)) := by omega
theorem dW_757 (x y : Nat) (hxy : x + 76 ≤ y) : ∀ k : Nat, ¬ (((x + 28 + 4)) = (x) + 24 ∨ ((x + 28 + 4)) = (x) + 27 ∨ ((x) + 58 ≤ ((x + 28 + 4)) ∧ ((x + 28 + 4)) ≤ (x) + 67) ∨ ((x) + 1 ≤ ((x + 28 + 4)) ∧ ((x + 28 + 4)) < (x) + 28)) := by intros; omega
theorem dW_758 (x y : Nat) (hxy : x + 76 ≤ y) : ¬ ((((y + 2)) = (y) + 3 ∨ ((y) + 7 ≤ ((y + 2)) ∧ ((y + 2)) ≤ (y) + 11)) ∨ ((y + 2)) = (y) + 1) := by omega
theorem dW_759 (x y : Nat) (hxy : x + 76 ≤ y) : ∀ k : Nat, k < 60 → ¬ ((((y + 2)) = (y) + 3 ∨ ((y) + 7 ≤ ((y + 2)) ∧ ((y + 2)) ≤ (y) + 11)) ∨ ((y + 2)) = (y) + 1) := by intros; omega
theorem dW_760 (x y : Nat) (hxy : x + 76 ≤ y) : ∀ a : Nat, (a = x + 28 + 21 ∨ a = x + 28 + 22 ∨ a = x + 28 + 24 ∨ a = x + 28 + 25) → ∀ k : Nat, ¬ ((a) = (x) + 24 ∨ (a) = (x) + 27 ∨ ((x) + 58 ≤ (a) ∧ (a) ≤ (x) + 67) ∨ ((x) + 1 ≤ (a) ∧ (a) < (x) + 28)) := by intros; omega
theorem dW_761 (x y : Nat) (hxy : x + 76 ≤ y) : ∀ k : Nat, 157 ≤ k → ¬ ((((y + 2)) = (y) + 3 ∨ ((y) + 7 ≤ ((y + 2)) ∧ ((y + 2)) ≤ (y) + 11)) ∨ ((y + 2)) = (y) + 1) := by intros; omega
theorem dW_762 (x y : Nat) (hxy : x + 76 ≤ y) : ∀ k : Nat, k < 24 → ¬ (((x + 28 + 5)) = (x) + 24 ∨ ((x + 28 + 5)) = (x) + 27 ∨ ((x) + 58 ≤ ((x + 28 + 5)) ∧ ((x + 28 + 5)) ≤ (x) + 67) ∨ ((x) + 1 ≤ ((x + 28 + 5)) ∧ ((x + 28 + 5)) < (x) + 28)) := by intros; omega
theorem dW_763 (x y : Nat) (hxy : x + 76 ≤ y) : ∀ k : Nat, k < 24 → ¬ ((((y + 2)) = (y) + 3 ∨ ((y) + 7 ≤ ((y + 2)) ∧ ((y + 2)) ≤ (y) + 11)) ∨ ((y + 2)) = (y) + 1) := by intros; omega
set_option maxHeartbeats 4000000 in
set_option maxRecDepth 100000 in
theorem lc_restore {p : Program} {l : Launch} {e : Env} {s : State} {m : MethodId} {below : List Frame} {meth : Method} {c : Code} {b L x y : Nat} {xs : Nat → Int32} {E : zz_E} {Q : State → Prop} (hA : zz_LA p s m c b L xs E x y) (i : Int32) (hi : 0 ≤ i.toInt ∧ i.toInt + 6 ≤ L) (σ : zz_S) (H : Heap) (locs : List Loc) (ls : Array Slot) (hR : zz_RL σ x y) (hQ : zz_RD σ x y) (hP : zz_P E σ H) (hS : va_S (zz_A E) s.heap H locs) (hl : lv_has ls 4 [(0, .ref b), (1, .ref x), (2, .ref y), (3, .int i)])
    (kk : ∀ (σ1 : zz_S) (H1 : Heap) (locs1 : List Loc), zz_RL σ1 x y → zz_RD σ1 x y → zz_P E σ1 H1 → va_S (zz_A E) s.heap H1 locs1 → W p l e room_1 s m #[Value.ref b] below meth c H1 locs1 600000 7302250 Q (F0 m 1384 ls [])) : W p l e room_1 s m #[Value.ref b] below meth c H locs 600000 7302250 Q (F0 m 1289 ls []) := by
  obtain ⟨hx, hb, hml, hown, hts, hX, hbl, hbE, hL, gL, gM, hxy, hK⟩ := hA
  have hbA : ¬ zz_A E b := fun h => absurd (hbE b h) (Nat.not_le.mpr hbl)
  refine lv_aload_n hx hb dL_law_1289 rfl (lv_at hl 1 rfl) ?_
  refine zz_callVi (As := []) (rest := []) ⟨hx, hb, hml, hown, hts⟩ hK hP hS (c_X8_restore l E σ x gL hR.1) (cwV 0 hts gL_law_X8_restore rfl rfl rfl (by decide +kernel) ⟨Nat.le_of_ble_eq_true rfl, Nat.le_of_ble_eq_true rfl⟩) (gL.1) rfl rfl hl.1 rfl (Nat.le_of_ble_eq_true rfl) dL_law_1290 ⟨Nat.le_refl _, Nat.le_refl _⟩ (fun r1 σ1 H locs q1 hP hS => ?_)
  try dsimp only at q1
  obtain ⟨w1, p1⟩ := q1
  have B : ∀ a k : Nat, y ≤ a → a ≤ y + 12 → σ1 a k = σ a k := fun a k h1 h2 => w1 a k ((dW_741 x y hxy) a k h1 h2)
  have hJ1 : zz_IM σ1 y := hR.2.1.far B
  refine lv_pop hx hb dL_law_1293 rfl ?_
  refine lv_aload_n hx hb dL_law_1294 rfl (lv_at hl 2 rfl) ?_
  refine zz_callVi (As := []) (rest := []) ⟨hx, hb, hml, hown, hts⟩ hK hP hS (c_X9_restore l E σ1 y gM hJ1) (cwV 0 hts gL_law_X9_restore rfl rfl rfl (by decide +kernel) ⟨Nat.le_of_ble_eq_true rfl, Nat.le_of_ble_eq_true rfl⟩) (gM.1) rfl rfl hl.1 rfl (Nat.le_of_ble_eq_true rfl) dL_law_1295 ⟨Nat.le_refl _, Nat.le_refl _⟩ (fun r2 σ2 H locs q2 hP hS => ?_)
  try dsimp only at q2
  obtain ⟨w2, p2⟩ := q2
  have A : ∀ a k : Nat, x ≤ a → a < x + 76 → σ2 a k = σ1 a k := fun a k h1 h2 => w2 a k ((dW_742 x y hxy) a k h1 h2)
  obtain ⟨i1, p1⟩ := p1
  obtain ⟨i2, p2⟩ := p2
  obtain ⟨hqD, hqW, hqK, hqB, hqN, hqC, hqL, hqT, hqP, hqX, hqF, hqG, hqV⟩ := hQ
  obtain ⟨aD, aW, aKD, aKW, aB, aN, aC, aL, aT, aP, aX, aKP, aKX⟩ := zz_aX A
  obtain ⟨bD, bW, bKD, bKW, bB, bN, bC, bL, bT, bP, bX, bKP, bKX⟩ := zz_bM hR.2.1 B
  obtain ⟨aF, aKF, aV, aKV⟩ := zy_aX2 A
  obtain ⟨bF, bKF, bV, bKV⟩ := zy_bM2 B
  obtain ⟨-, -, hr, hk, hm⟩ := hR
  have e0 : σ2 x 2 = σ x 2 := (A x 2 (by omega) (by omega)).trans (w1 x 2 (by first | omega | (dsimp only; omega)))
  have e1 : σ2 y 2 = σ y 2 := (w2 y 2 (by first | omega | (dsimp only; omega))).trans (B y 2 (by omega) (by omega))
  have e2 := congrArg Int32.toInt (B y 2 (by omega) (by omega))
  have hk2 : (σ2 x 2).toInt = 0 ∨ zz_RR σ2 (x + 28) (y + 2) := by rw [e0]; exact hk.imp id (fun q => q.keep7 (fun k _ => (A _ k (by omega) (by omega)).trans (w1 (x + 28) k (by first | omega | (dsimp only; omega)))) (fun k _ => (w2 (y + 2) k (by first | omega | (dsimp only; omega))).trans (B _ k (by omega) (by omega))))
  have hn : zz_RR σ2 (x + 1) (y + 1) := by
    rcases p1 with ⟨a1, -, a3⟩ | ⟨a1, -, a3⟩
    · rcases p2 with ⟨b1, -, b3⟩ | ⟨b1, -, b3⟩
      · exact ⟨by rw [A (x + 1) 0 (by omega) (by omega), a3.1, b3 0, B (y + 1) 0 (by omega) (by omega)]; exact hr.1, by rw [A (x + 1) 1 (by omega) (by omega), a3.2.1, b3 4, B (y + 1) 4 (by omega) (by omega)]; exact hr.2.1, by rw [A (x + 1) 2 (by omega) (by omega), a3.2.2.1, b3 1, B (y + 1) 1 (by omega) (by omega)]; exact hr.2.2.1, by rw [A (x + 1) 4 (by omega) (by omega), a3.2.2.2.1, b3 2, B (y + 1) 2 (by omega) (by omega)]; exact hr.2.2.2.1, by rw [A (x + 1) 6 (by omega) (by omega), a3.2.2.2.2.1, b3 3, B (y + 1) 3 (by omega) (by omega)]; exact hr.2.2.2.2.1, by rw [A (x + 1) 9 (by omega) (by omega), a3.2.2.2.2.2.1, b3 5, B (y + 1) 5 (by omega) (by omega)]; exact hr.2.2.2.2.2.1, by rw [A (x + 1) 11 (by omega) (by omega), a3.2.2.2.2.2.2.1, b3 6, B (y + 1) 6 (by omega) (by omega)]; exact hr.2.2.2.2.2.2⟩
      · exact absurd a1 (by omega)
    · rcases p2 with ⟨b1, -, b3⟩ | ⟨b1, -, b3⟩
      · exact absurd b1 (by omega)
      · rcases hk with q | q
        · exact absurd q a1
        · exact ⟨by rw [A (x + 1) 0 (by omega) (by omega), a3.1, b3 0 (by omega), B (y + 2) 0 (by omega) (by omega)]; exact q.1, by rw [A (x + 1) 1 (by omega) (by omega), a3.2.1, b3 4 (by omega), B (y + 2) 4 (by omega) (by omega)]; exact q.2.1, by rw [A (x + 1) 2 (by omega) (by omega), a3.2.2.1, b3 1 (by omega), B (y + 2) 1 (by omega) (by omega)]; exact q.2.2.1, by rw [A (x + 1) 4 (by omega) (by omega), a3.2.2.2.1, b3 2 (by omega), B (y + 2) 2 (by omega) (by omega)]; exact q.2.2.2.1, by rw [A (x + 1) 6 (by omega) (by omega), a3.2.2.2.2.1, b3 3 (by omega), B (y + 2) 3 (by omega) (by omega)]; exact q.2.2.2.2.1, by rw [A (x + 1) 9 (by omega) (by omega), a3.2.2.2.2.2.1, b3 5 (by omega), B (y + 2) 5 (by omega) (by omega)]; exact q.2.2.2.2.2.1, by rw [A (x + 1) 11 (by omega) (by omega), a3.2.2.2.2.2.2.1, b3 6 (by omega), B (y + 2) 6 (by omega) (by omega)]; exact q.2.2.2.2.2.2⟩
  have hRL : zz_RL σ2 x y := ⟨i1.far A, i2, hn, hk2, by rw [e0, e1]; exact hm⟩
  have rB : zz_HX 0 σ2 x = zz_HM σ2 (y + 4) := by rw [aB, zz_HX.eq (f := 0) (x := x) (fun j hj => w1 _ _ ((dW_743 x y hxy) j hj)), zz_HM.eq (a := y + 4) (fun j hj => w2 _ _ ((dW_744 x y hxy) j hj)), bB, hqB]
  have rN : zz_HX 1 σ2 x = zz_HM σ2 (y + 5) := by rw [aN, zz_HX.eq (f := 1) (x := x) (fun j hj => w1 _ _ ((dW_743 x y hxy) j hj)), zz_HM.eq (a := y + 5) (fun j hj => w2 _ _ ((dW_745 x y hxy) j hj)), bN, hqN]
  have rC : zz_CX σ2 x = zz_CM σ2 (y + 6) := by rw [aC, zz_CX.eq (x := x) (fun j hj k hk => w1 _ _ ((dW_746 x y hxy) j hj k hk)), zz_CM.eq (a := y + 6) (fun k hk => w2 _ _ ((dW_747 x y hxy) k hk)), bC, hqC]
  have rL : (σ2 (x + 56) 1).toInt = (σ2 y 18).toInt := by rw [aL, congrArg Int32.toInt (w1 (x + 56) 1 (dW_748 x y hxy)), congrArg Int32.toInt (w2 y 18 (dW_749 x y hxy)), bL, hqL]
  have rT : zz_TV σ2 (x + 56 + 1) = zz_TV σ2 (y + 12) := by rw [aT, zz_TV.eq (a := x + 56 + 1) (b := x + 56 + 1) (fun k _ => w1 _ k ((dW_750 x y hxy) k)), zz_TV.eq (a := y + 12) (b := y + 12) (fun k _ => w2 _ k ((dW_751 x y hxy) k)), bT, hqT]
  have rDW : zz_DX σ2 (x + 1) = zz_DM σ2 (y + 1) ∧ zz_PX 0 σ2 (x + 1) = zz_PM 0 σ2 (y + 1) ∧ zz_Tp σ2 (x + 1 + 4) (σ2 (x + 1) 9).toInt = zz_Tm σ2 (y + 1) ∧ zz_tts (zz_XT σ2 (x + 1)) (zz_MT σ2 (y + 1)) ∧ zz_PX 1 σ2 (x + 1) = zz_PM 1 σ2 (y + 1) ∧ zy_FB (zz_PM 1 σ2 (y + 1)) ∧ zy_wv σ2 (x + 1 + 5) 0 (σ2 (x + 1) 11).toInt = zy_wv σ2 (y + 1) 133 (σ2 (y + 1) 6).toInt := by
    rcases p1 with ⟨a1, -, a3⟩ | ⟨a1, -, a3⟩
    · rcases p2 with ⟨b1, -, b3⟩ | ⟨b1, -, b3⟩
      · exact ⟨by rw [aD, a3.2.2.2.2.2.2.2.1, zz_DM.eq (fun k _ _ => b3 k), bD, hqD], by rw [aW, a3.2.2.2.2.2.2.2.2.1, zz_PM.eq (fun j _ => b3 _), bW, hqW], by rw [aP, a3.2.2.2.2.2.2.2.2.2.2.2.1, zz_Tm.eq (b3 5) hJ1.1.2.2.2.2.1.2 (fun k _ => b3 _), bP, hqP], by rw [aX, a3.2.2.2.2.2.2.2.2.2.2.1, zz_MT.hi (fun k _ => b3 k), bX]; exact hqX, by rw [aF, a3.2.2.2.2.2.2.2.2.2.1, zz_PM.eq (fun j _ => b3 _), bF, hqF], by rw [zz_PM.eq (a := y + 1) (f := 1) (fun j _ => b3 _), bF]; exact hqG, by rw [aV, a3.2.2.2.2.2.2.2.2.2.2.2.2, zy_wv.eq (a := y + 1) (a1 := y + 1) (congrArg Int32.toInt (b3 6)) (fun k _ => b3 _), bV, hqV]⟩
      · exact absurd a1 (by omega)
    · rcases p2 with ⟨b1, -, b3⟩ | ⟨b1, -, b3⟩
      · exact absurd b1 (by omega)
      · rcases hqK with q | q
        · exact absurd q a1
        · exact ⟨by rw [aD, a3.2.2.2.2.2.2.2.1, zz_DM.eq (fun k _ _ => b3 k (by omega)), bKD, q.1], by rw [aW, a3.2.2.2.2.2.2.2.2.1, zz_PM.eq (fun j hj => b3 _ (by omega)), bKW, q.2.1], by rw [aP, a3.2.2.2.2.2.2.2.2.2.2.2.1, zz_Tm.eq (b3 5 (by omega)) hJ1.2.1.2.2.2.2.1.2 (fun k hk => b3 _ (by omega)), bKP, q.2.2.1], by rw [aX, a3.2.2.2.2.2.2.2.2.2.2.1, zz_MT.eq (fun k _ h2 => b3 k h2) (fun u hu => (hJ1.2.1.2.2.2.2.2.2.2 u hu).1.2), bKX]; exact q.2.2.2.1, by rw [aF, a3.2.2.2.2.2.2.2.2.2.1, zz_PM.eq (fun j hj => b3 _ (by omega)), bKF, q.2.2.2.2.1], by rw [zz_PM.eq (a := y + 2) (f := 1) (fun j hj => b3 _ (by omega)), bKF]; exact q.2.2.2.2.2.1, by rw [aV, a3.2.2.2.2.2.2.2.2.2.2.2.2, zy_wv.eq (a := y + 2) (a1 := y + 1) (congrArg Int32.toInt (b3 6 (by omega))) (fun k hk => b3 _ (by omega)), bKV, q.2.2.2.2.2.2]⟩
  have rK : (σ2 x 2).toInt = 0 ∨ (zz_DX σ2 (x + 28) = zz_DM σ2 (y + 2) ∧ zz_PX 0 σ2 (x + 28) = zz_PM 0 σ2 (y + 2) ∧ zz_Tp σ2 (x + 28 + 4) (σ2 (x + 28) 9).toInt = zz_Tm σ2 (y + 2) ∧ zz_tts (zz_XT σ2 (x + 28)) (zz_MT σ2 (y + 2)) ∧ zz_PX 1 σ2 (x + 28) = zz_PM 1 σ2 (y + 2) ∧ zy_FB (zz_PM 1 σ2 (y + 2)) ∧ zy_wv σ2 (x + 28 + 5) 0 (σ2 (x + 28) 11).toInt = zy_wv σ2 (y + 2) 133 (σ2 (y + 2) 6).toInt) := by
    rw [e0]
    exact hqK.imp id (fun q => ⟨by rw [aKD, zz_DXk (r := x + 28) w1 (dW_752 x y hxy), zz_DMk (a := y + 2) w2 (dW_753 x y hxy), bKD, q.1], by rw [aKW, zz_PXk (f := 0) (r := x + 28) w1 (dW_754 x y hxy), zz_PMk (f := 0) (a := y + 2) w2 (dW_755 x y hxy), bKW, q.2.1], by rw [aKP, zz_Tp.all (a := x + 28 + 4) (b := x + 28 + 4) (congrArg Int32.toInt (w1 (x + 28) 9 (dW_756 x y hxy))) (fun k => w1 _ k ((dW_757 x y hxy) k)), zz_Tm.eq (a := y + 2) (b := y + 2) (w2 (y + 2) 5 (dW_758 x y hxy)) hJ1.2.1.2.2.2.2.1.2 (fun k hk => w2 (y + 2) (73 + k) ((dW_759 x y hxy) k hk)), bKP, q.2.2.1], by rw [aKX, zz_XT.all (r := x + 28) (fun a ha k => w1 a k ((dW_760 x y hxy) a ha k)), zz_MT.hi (a := y + 2) (b := y + 2) (fun k hk => w2 (y + 2) k ((dW_761 x y hxy) k hk)), bKX]; exact q.2.2.2.1, by rw [aKF, zz_PXk (f := 1) (r := x + 28) w1 (dW_754 x y hxy), zz_PMk (f := 1) (a := y + 2) w2 (dW_755 x y hxy), bKF, q.2.2.2.2.1], by rw [zz_PMk (f := 1) (a := y + 2) w2 (dW_755 x y hxy), bKF]; exact q.2.2.2.2.2.1, by rw [aKV, zy_wv.eq (a := x + 28 + 5) (a1 := x + 28 + 5) (b := 0) (b1 := 0) (congrArg Int32.toInt (w1 (x + 28) 11 (dW_756 x y hxy))) (fun k hk => w1 (x + 28 + 5) (0 + k) ((dW_762 x y hxy) k hk)), zy_wv.eq (a := y + 2) (a1 := y + 2) (b := 133) (b1 := 133) (congrArg Int32.toInt (w2 (y + 2) 6 (dW_758 x y hxy))) (fun k hk => w2 (y + 2) (133 + k) ((dW_763 x y hxy) k hk)), bKV, q.2.2.2.2.2.2]⟩)
  have hQ2 : zz_RD σ2 x y := ⟨rDW.1, rDW.2.1, rK, rB, rN, rC, rL, rT, rDW.2.2.1, rDW.2.2.2.1, rDW.2.2.2.2.1, rDW.2.2.2.2.2.1, rDW.2.2.2.2.2.2⟩
  refine lv_pop hx hb dL_law_1298 rfl ?_
  refine lv_goto (tgt := 1384) hx hb dL_law_1299 (by decide) ?_
  exact kk _ _ _ hRL hQ2 hP hS
theorem gL_law_X8_tell : GoodIn wsL_law (wsV RL 158 RX8 yX8_tell wzX8_tell) := wz_coL bm_986 (wz_coL bm_987 (wz_coL bm_988 (wz_coL bm_2 (wz_inL bm_989))))
theorem gL_law_X9_tell : GoodIn wsL_law (wsV RL 161 RX9 yX9_tell wzX9_tell) := wz_coL bm_992 (wz_coL bm_993 (wz_coL bm_994 (wz_coL bm_5 (wz_inL bm_995))))
theorem dW_764 (x y : Nat) (hxy : x + 76 ≤ y) : ∀ a k : Nat, y ≤ a → a ≤ y + 12 → ¬ ((a) = (x) + 24 ∨ (a) = (x) + 27 ∨ ((x) + 58 ≤ (a) ∧ (a) ≤ (x) + 67) ∨ ((a) = (x) + 1 ∧ (k) = 11) ∨ (a) = (x) + 6) := by intros; omega
theorem dW_765 (x y : Nat) (hxy : x + 76 ≤ y) : ∀ a k : Nat, x ≤ a → a < x + 76 → ¬ (((a) = (y) + 3 ∨ ((y) + 7 ≤ (a) ∧ (a) ≤ (y) + 11)) ∨ ((a) = (y) + 1 ∧ ((k) = 6 ∨ (133 ≤ (k) ∧ (k) < 157)))) := by intros; omega
theorem dW_766 (x y : Nat) (hxy : x + 76 ≤ y) : ∀ k : Nat, ¬ (((x + 28)) = (x) + 24 ∨ ((x + 28)) = (x) + 27 ∨ ((x) + 58 ≤ ((x + 28)) ∧ ((x + 28)) ≤ (x) + 67) ∨ (((x + 28)) = (x) + 1 ∧ (k) = 11) ∨ ((x + 28)) = (x) + 6) := by intros; omega
theorem dW_767 (x y : Nat) (hxy : x + 76 ≤ y) : ¬ ((x) = (x) + 24 ∨ (x) = (x) + 27 ∨ ((x) + 58 ≤ (x) ∧ (x) ≤ (x) + 67) ∨ ((x) = (x) + 1 ∧ (2) = 11) ∨ (x) = (x) + 6) := by omega
theorem dW_768 (x y : Nat) (hxy : x + 76 ≤ y) : ∀ k : Nat, ¬ ((((y + 2)) = (y) + 3 ∨ ((y) + 7 ≤ ((y + 2)) ∧ ((y + 2)) ≤ (y) + 11)) ∨ (((y + 2)) = (y) + 1 ∧ ((k) = 6 ∨ (133 ≤ (k) ∧ (k) < 157)))) := by intros; omega
theorem dW_769 (x y : Nat) (hxy : x + 76 ≤ y) : ¬ (((y) = (y) + 3 ∨ ((y) + 7 ≤ (y) ∧ (y) ≤ (y) + 11)) ∨ ((y) = (y) + 1 ∧ ((2) = 6 ∨ (133 ≤ (2) ∧ (2) < 157)))) := by omega
theorem dW_770 (x y : Nat) (hxy : x + 76 ≤ y) : ¬ (((x + 1)) = (x) + 24 ∨ ((x + 1)) = (x) + 27 ∨ ((x) + 58 ≤ ((x + 1)) ∧ ((x + 1)) ≤ (x) + 67) ∨ (((x + 1)) = (x) + 1 ∧ (0) = 11) ∨ ((x + 1)) = (x) + 6) := by omega
theorem dW_771 (x y : Nat) (hxy : x + 76 ≤ y) : ¬ ((((y + 1)) = (y) + 3 ∨ ((y) + 7 ≤ ((y + 1)) ∧ ((y + 1)) ≤ (y) + 11)) ∨ (((y + 1)) = (y) + 1 ∧ ((0) = 6 ∨ (133 ≤ (0) ∧ (0) < 157)))) := by omega
theorem dW_772 (x y : Nat) (hxy : x + 76 ≤ y) : ¬ (((x + 1)) = (x) + 24 ∨ ((x + 1)) = (x) + 27 ∨ ((x) + 58 ≤ ((x + 1)) ∧ ((x + 1)) ≤ (x) + 67) ∨ (((x + 1)) = (x) + 1 ∧ (1) = 11) ∨ ((x + 1)) = (x) + 6) := by omega
theorem dW_773 (x y : Nat) (hxy : x + 76 ≤ y) : ¬ ((((y + 1)) = (y) + 3 ∨ ((y) + 7 ≤ ((y + 1)) ∧ ((y + 1)) ≤ (y) + 11)) ∨ (((y + 1)) = (y) + 1 ∧ ((4) = 6 ∨ (133 ≤ (4) ∧ (4) < 157)))) := by omega
theorem dW_774 (x y : Nat) (hxy : x + 76 ≤ y) : ¬ (((x + 1)) = (x) + 24 ∨ ((x + 1)) = (x) + 27 ∨ ((x) + 58 ≤ ((x + 1)) ∧ ((x + 1)) ≤ (x) + 67) ∨ (((x + 1)) = (x) + 1 ∧ (2) = 11) ∨ ((x + 1)) = (x) + 6) := by omega
theorem dW_775 (x y : Nat) (hxy : x + 76 ≤ y) : ¬ ((((y + 1)) = (y) + 3 ∨ ((y) + 7 ≤ ((y + 1)) ∧ ((y + 1)) ≤ (y) + 11)) ∨ (((y + 1)) = (y) + 1 ∧ ((1) = 6 ∨ (133 ≤ (1) ∧ (1) < 157)))) := by omega
theorem dW_776 (x y : Nat) (hxy : x + 76 ≤ y) : ¬ (((x + 1)) = (x) + 24 ∨ ((x + 1)) = (x) + 27 ∨ ((x) + 58 ≤ ((x + 1)) ∧ ((x + 1)) ≤ (x) + 67) ∨ (((x + 1)) = (x) + 1 ∧ (4) = 11) ∨ ((x + 1)) = (x) + 6) := by omega
theorem dW_777 (x y : Nat) (hxy : x + 76 ≤ y) : ¬ ((((y + 1)) = (y) + 3 ∨ ((y) + 7 ≤ ((y + 1)) ∧ ((y + 1)) ≤ (y) + 11)) ∨ (((y + 1)) = (y) + 1 ∧ ((2) = 6 ∨ (133 ≤ (2) ∧ (2) < 157)))) := by omega
theorem dW_778 (x y : Nat) (hxy : x + 76 ≤ y) : ¬ (((x + 1)) = (x) + 24 ∨ ((x + 1)) = (x) + 27 ∨ ((x) + 58 ≤ ((x + 1)) ∧ ((x + 1)) ≤ (x) + 67) ∨ (((x + 1)) = (x) + 1 ∧ (6) = 11) ∨ ((x + 1)) = (x) + 6) := by omega
theorem dW_779 (x y : Nat) (hxy : x + 76 ≤ y) : ¬ ((((y + 1)) = (y) + 3 ∨ ((y) + 7 ≤ ((y + 1)) ∧ ((y + 1)) ≤ (y) + 11)) ∨ (((y + 1)) = (y) + 1 ∧ ((3) = 6 ∨ (133 ≤ (3) ∧ (3) < 157)))) := by omega
theorem dW_780 (x y : Nat) (hxy : x + 76 ≤ y) : ¬ (((x + 1)) = (x) + 24 ∨ ((x + 1)) = (x) + 27 ∨ ((x) + 58 ≤ ((x + 1)) ∧ ((x + 1)) ≤ (x) + 67) ∨ (((x + 1)) = (x) + 1 ∧ (9) = 11) ∨ ((x + 1)) = (x) + 6) := by omega
theorem dW_781 (x y : Nat) (hxy : x + 76 ≤ y) : ¬ ((((y + 1)) = (y) + 3 ∨ ((y) + 7 ≤ ((y + 1)) ∧ ((y + 1)) ≤ (y) + 11)) ∨ (((y + 1)) = (y) + 1 ∧ ((5) = 6 ∨ (133 ≤ (5) ∧ (5) < 157)))) := by omega
theorem dW_782 (x y : Nat) (hxy : x + 76 ≤ y) : ∀ j : Nat, j < 9 → ∀ k : Nat, k < 6 → ¬ (((x + 1 + 6 + 1 * j)) = (x) + 24 ∨ ((x + 1 + 6 + 1 * j)) = (x) + 27 ∨ ((x) + 58 ≤ ((x + 1 + 6 + 1 * j)) ∧ ((x + 1 + 6 + 1 * j)) ≤ (x) + 67) ∨ (((x + 1 + 6 + 1 * j)) = (x) + 1 ∧ (k) = 11) ∨ ((x + 1 + 6 + 1 * j)) = (x) + 6) := by intros; omega
theorem dW_783 (x y : Nat) (hxy : x + 76 ≤ y) : ∀ k : Nat, 7 ≤ k → k < 61 → ¬ ((((y + 1)) = (y) + 3 ∨ ((y) + 7 ≤ ((y + 1)) ∧ ((y + 1)) ≤ (y) + 11)) ∨ (((y + 1)) = (y) + 1 ∧ ((k) = 6 ∨ (133 ≤ (k) ∧ (k) < 157)))) := by intros; omega
theorem dW_784 (x y : Nat) (hxy : x + 76 ≤ y) : ∀ j : Nat, j < 6 → ¬ (((x + 1 + 15 + 1 * j)) = (x) + 24 ∨ ((x + 1 + 15 + 1 * j)) = (x) + 27 ∨ ((x) + 58 ≤ ((x + 1 + 15 + 1 * j)) ∧ ((x + 1 + 15 + 1 * j)) ≤ (x) + 67) ∨ (((x + 1 + 15 + 1 * j)) = (x) + 1 ∧ (0) = 11) ∨ ((x + 1 + 15 + 1 * j)) = (x) + 6) := by intros; omega
theorem dW_785 (x y : Nat) (hxy : x + 76 ≤ y) : ∀ j : Nat, j < 6 → ¬ ((((y + 1)) = (y) + 3 ∨ ((y) + 7 ≤ ((y + 1)) ∧ ((y + 1)) ≤ (y) + 11)) ∨ (((y + 1)) = (y) + 1 ∧ (((61 + 2 * j + 0)) = 6 ∨ (133 ≤ ((61 + 2 * j + 0)) ∧ ((61 + 2 * j + 0)) < 157)))) := by intros; omega
theorem dW_786 (x y : Nat) (hxy : x + 76 ≤ y) : ∀ j : Nat, j < 4 → ¬ (((x + 68 + 2 * j)) = (x) + 24 ∨ ((x + 68 + 2 * j)) = (x) + 27 ∨ ((x) + 58 ≤ ((x + 68 + 2 * j)) ∧ ((x + 68 + 2 * j)) ≤ (x) + 67) ∨ (((x + 68 + 2 * j)) = (x) + 1 ∧ (0) = 11) ∨ ((x + 68 + 2 * j)) = (x) + 6) := by intros; omega
theorem dW_787 (x y : Nat) (hxy : x + 76 ≤ y) : ∀ j : Nat, j < 4 → ¬ ((((y + 4)) = (y) + 3 ∨ ((y) + 7 ≤ ((y + 4)) ∧ ((y + 4)) ≤ (y) + 11)) ∨ (((y + 4)) = (y) + 1 ∧ ((j) = 6 ∨ (133 ≤ (j) ∧ (j) < 157)))) := by intros; omega
theorem dW_788 (x y : Nat) (hxy : x + 76 ≤ y) : ∀ j : Nat, j < 4 → ¬ (((x + 68 + 2 * j)) = (x) + 24 ∨ ((x + 68 + 2 * j)) = (x) + 27 ∨ ((x) + 58 ≤ ((x + 68 + 2 * j)) ∧ ((x + 68 + 2 * j)) ≤ (x) + 67) ∨ (((x + 68 + 2 * j)) = (x) + 1 ∧ (1) = 11) ∨ ((x + 68 + 2 * j)) = (x) + 6) := by intros; omega
theorem dW_789 (x y : Nat) (hxy : x + 76 ≤ y) : ∀ j : Nat, j < 4 → ¬ ((((y + 5)) = (y) + 3 ∨ ((y) + 7 ≤ ((y + 5)) ∧ ((y + 5)) ≤ (y) + 11)) ∨ (((y + 5)) = (y) + 1 ∧ ((j) = 6 ∨ (133 ≤ (j) ∧ (j) < 157)))) := by intros; omega
theorem dW_790 (x y : Nat) (hxy : x + 76 ≤ y) : ∀ j : Nat, j < 4 → ∀ k : Nat, k < 24 → ¬ (((x + 68 + 2 * j + 1)) = (x) + 24 ∨ ((x + 68 + 2 * j + 1)) = (x) + 27 ∨ ((x) + 58 ≤ ((x + 68 + 2 * j + 1)) ∧ ((x + 68 + 2 * j + 1)) ≤ (x) + 67) ∨ (((x + 68 + 2 * j + 1)) = (x) + 1 ∧ (k) = 11) ∨ ((x + 68 + 2 * j + 1)) = (x) + 6) := by intros; omega
theorem dW_791 (x y : Nat) (hxy : x + 76 ≤ y) : ∀ k : Nat, k < 96 → ¬ ((((y + 6)) = (y) + 3 ∨ ((y) + 7 ≤ ((y + 6)) ∧ ((y + 6)) ≤ (y) + 11)) ∨ (((y + 6)) = (y) + 1 ∧ ((k) = 6 ∨ (133 ≤ (k) ∧ (k) < 157)))) := by intros; omega
theorem dW_792 (x y : Nat) (hxy : x + 76 ≤ y) : ¬ (((x + 56)) = (x) + 24 ∨ ((x + 56)) = (x) + 27 ∨ ((x) + 58 ≤ ((x + 56)) ∧ ((x + 56)) ≤ (x) + 67) ∨ (((x + 56)) = (x) + 1 ∧ (1) = 11) ∨ ((x + 56)) = (x) + 6) := by omega
theorem dW_793 (x y : Nat) (hxy : x + 76 ≤ y) : ¬ (((y) = (y) + 3 ∨ ((y) + 7 ≤ (y) ∧ (y) ≤ (y) + 11)) ∨ ((y) = (y) + 1 ∧ ((18) = 6 ∨ (133 ≤ (18) ∧ (18) < 157)))) := by omega
theorem dW_794 (x y : Nat) (hxy : x + 76 ≤ y) : ∀ k : Nat, ¬ (((x + 56 + 1)) = (x) + 24 ∨ ((x + 56 + 1)) = (x) + 27 ∨ ((x) + 58 ≤ ((x + 56 + 1)) ∧ ((x + 56 + 1)) ≤ (x) + 67) ∨ (((x + 56 + 1)) = (x) + 1 ∧ (k) = 11) ∨ ((x + 56 + 1)) = (x) + 6) := by intros; omega
theorem dW_795 (x y : Nat) (hxy : x + 76 ≤ y) : ∀ k : Nat, ¬ ((((y + 12)) = (y) + 3 ∨ ((y) + 7 ≤ ((y + 12)) ∧ ((y + 12)) ≤ (y) + 11)) ∨ (((y + 12)) = (y) + 1 ∧ ((k) = 6 ∨ (133 ≤ (k) ∧ (k) < 157)))) := by intros; omega
theorem dW_796 (x y : Nat) (hxy : x + 76 ≤ y) : ∀ k : Nat, ¬ (((x + 1 + 4)) = (x) + 24 ∨ ((x + 1 + 4)) = (x) + 27 ∨ ((x) + 58 ≤ ((x + 1 + 4)) ∧ ((x + 1 + 4)) ≤ (x) + 67) ∨ (((x + 1 + 4)) = (x) + 1 ∧ (k) = 11) ∨ ((x + 1 + 4)) = (x) + 6) := by intros; omega
theorem dW_797 (x y : Nat) (hxy : x + 76 ≤ y) : ∀ k : Nat, k < 60 → ¬ ((((y + 1)) = (y) + 3 ∨ ((y) + 7 ≤ ((y + 1)) ∧ ((y + 1)) ≤ (y) + 11)) ∨ (((y + 1)) = (y) + 1 ∧ (((73 + k)) = 6 ∨ (133 ≤ ((73 + k)) ∧ ((73 + k)) < 157)))) := by intros; omega
theorem dW_798 (x y : Nat) (hxy : x + 76 ≤ y) : ∀ a : Nat, (a = x + 1 + 21 ∨ a = x + 1 + 22 ∨ a = x + 1 + 24 ∨ a = x + 1 + 25) → ∀ k : Nat, ¬ ((a) = (x) + 24 ∨ (a) = (x) + 27 ∨ ((x) + 58 ≤ (a) ∧ (a) ≤ (x) + 67) ∨ ((a) = (x) + 1 ∧ (k) = 11) ∨ (a) = (x) + 6) := by intros; omega
theorem dW_799 (x y : Nat) (hxy : x + 76 ≤ y) : ∀ k : Nat, 157 ≤ k → ¬ ((((y + 1)) = (y) + 3 ∨ ((y) + 7 ≤ ((y + 1)) ∧ ((y + 1)) ≤ (y) + 11)) ∨ (((y + 1)) = (y) + 1 ∧ ((k) = 6 ∨ (133 ≤ (k) ∧ (k) < 157)))) := by intros; omega
theorem dW_800 (x y : Nat) (hxy : x + 76 ≤ y) : ∀ j : Nat, j < 6 → ¬ (((x + 1 + 15 + 1 * j)) = (x) + 24 ∨ ((x + 1 + 15 + 1 * j)) = (x) + 27 ∨ ((x) + 58 ≤ ((x + 1 + 15 + 1 * j)) ∧ ((x + 1 + 15 + 1 * j)) ≤ (x) + 67) ∨ (((x + 1 + 15 + 1 * j)) = (x) + 1 ∧ (1) = 11) ∨ ((x + 1 + 15 + 1 * j)) = (x) + 6) := by intros; omega
theorem dW_801 (x y : Nat) (hxy : x + 76 ≤ y) : ∀ j : Nat, j < 6 → ¬ ((((y + 1)) = (y) + 3 ∨ ((y) + 7 ≤ ((y + 1)) ∧ ((y + 1)) ≤ (y) + 11)) ∨ (((y + 1)) = (y) + 1 ∧ (((61 + 2 * j + 1)) = 6 ∨ (133 ≤ ((61 + 2 * j + 1)) ∧ ((61 + 2 * j + 1)) < 157)))) := by intros; omega
theorem dW_802 (x y : Nat) (hxy : x + 76 ≤ y) : ∀ j : Nat, j < 9 → ∀ k : Nat, k < 6 → ¬ (((x + 28 + 6 + 1 * j)) = (x) + 24 ∨ ((x + 28 + 6 + 1 * j)) = (x) + 27 ∨ ((x) + 58 ≤ ((x + 28 + 6 + 1 * j)) ∧ ((x + 28 + 6 + 1 * j)) ≤ (x) + 67) ∨ (((x + 28 + 6 + 1 * j)) = (x) + 1 ∧ (k) = 11) ∨ ((x + 28 + 6 + 1 * j)) = (x) + 6) := by intros; omega
theorem dW_803 (x y : Nat) (hxy : x + 76 ≤ y) : ∀ k : Nat, 7 ≤ k → k < 61 → ¬ ((((y + 2)) = (y) + 3 ∨ ((y) + 7 ≤ ((y + 2)) ∧ ((y + 2)) ≤ (y) + 11)) ∨ (((y + 2)) = (y) + 1 ∧ ((k) = 6 ∨ (133 ≤ (k) ∧ (k) < 157)))) := by intros; omega
theorem dW_804 (x y : Nat) (hxy : x + 76 ≤ y) : ∀ j : Nat, j < 6 → ¬ (((x + 28 + 15 + 1 * j)) = (x) + 24 ∨ ((x + 28 + 15 + 1 * j)) = (x) + 27 ∨ ((x) + 58 ≤ ((x + 28 + 15 + 1 * j)) ∧ ((x + 28 + 15 + 1 * j)) ≤ (x) + 67) ∨ (((x + 28 + 15 + 1 * j)) = (x) + 1 ∧ (0) = 11) ∨ ((x + 28 + 15 + 1 * j)) = (x) + 6) := by intros; omega
theorem dW_805 (x y : Nat) (hxy : x + 76 ≤ y) : ∀ j : Nat, j < 6 → ¬ ((((y + 2)) = (y) + 3 ∨ ((y) + 7 ≤ ((y + 2)) ∧ ((y + 2)) ≤ (y) + 11)) ∨ (((y + 2)) = (y) + 1 ∧ (((61 + 2 * j + 0)) = 6 ∨ (133 ≤ ((61 + 2 * j + 0)) ∧ ((61 + 2 * j + 0)) < 157)))) := by intros; omega
theorem dW_806 (x y : Nat) (hxy : x + 76 ≤ y) : ¬ (((x + 28)) = (x) + 24 ∨ ((x + 28)) = (x) + 27 ∨ ((x) + 58 ≤ ((x + 28)) ∧ ((x + 28)) ≤ (x) + 67) ∨ (((x + 28)) = (x) + 1 ∧ (9) = 11) ∨ ((x + 28)) = (x) + 6) := by omega
theorem dW_807 (x y : Nat) (hxy : x + 76 ≤ y) : ∀ k : Nat, ¬ (((x + 28 + 4)) = (x) + 24 ∨ ((x + 28 + 4)) = (x) + 27 ∨ ((x) + 58 ≤ ((x + 28 + 4)) ∧ ((x + 28 + 4)) ≤ (x) + 67) ∨ (((x + 28 + 4)) = (x) + 1 ∧ (k) = 11) ∨ ((x + 28 + 4)) = (x) + 6) := by intros; omega
theorem dW_808 (x y : Nat) (hxy : x + 76 ≤ y) : ¬ ((((y + 2)) = (y) + 3 ∨ ((y) + 7 ≤ ((y + 2)) ∧ ((y + 2)) ≤ (y) + 11)) ∨ (((y + 2)) = (y) + 1 ∧ ((5) = 6 ∨ (133 ≤ (5) ∧ (5) < 157)))) := by omega
theorem dW_809 (x y : Nat) (hxy : x + 76 ≤ y) : ∀ k : Nat, k < 60 → ¬ ((((y + 2)) = (y) + 3 ∨ ((y) + 7 ≤ ((y + 2)) ∧ ((y + 2)) ≤ (y) + 11)) ∨ (((y + 2)) = (y) + 1 ∧ (((73 + k)) = 6 ∨ (133 ≤ ((73 + k)) ∧ ((73 + k)) < 157)))) := by intros; omega
theorem dW_810 (x y : Nat) (hxy : x + 76 ≤ y) : ∀ a : Nat, (a = x + 28 + 21 ∨ a = x + 28 + 22 ∨ a = x + 28 + 24 ∨ a = x + 28 + 25) → ∀ k : Nat, ¬ ((a) = (x) + 24 ∨ (a) = (x) + 27 ∨ ((x) + 58 ≤ (a) ∧ (a) ≤ (x) + 67) ∨ ((a) = (x) + 1 ∧ (k) = 11) ∨ (a) = (x) + 6) := by intros; omega
theorem dW_811 (x y : Nat) (hxy : x + 76 ≤ y) : ∀ k : Nat, 157 ≤ k → ¬ ((((y + 2)) = (y) + 3 ∨ ((y) + 7 ≤ ((y + 2)) ∧ ((y + 2)) ≤ (y) + 11)) ∨ (((y + 2)) = (y) + 1 ∧ ((k) = 6 ∨ (133 ≤ (k) ∧ (k) < 157)))) := by intros; omega
theorem dW_812 (x y : Nat) (hxy : x + 76 ≤ y) : ∀ j : Nat, j < 6 → ¬ (((x + 28 + 15 + 1 * j)) = (x) + 24 ∨ ((x + 28 + 15 + 1 * j)) = (x) + 27 ∨ ((x) + 58 ≤ ((x + 28 + 15 + 1 * j)) ∧ ((x + 28 + 15 + 1 * j)) ≤ (x) + 67) ∨ (((x + 28 + 15 + 1 * j)) = (x) + 1 ∧ (1) = 11) ∨ ((x + 28 + 15 + 1 * j)) = (x) + 6) := by intros; omega
theorem dW_813 (x y : Nat) (hxy : x + 76 ≤ y) : ∀ j : Nat, j < 6 → ¬ ((((y + 2)) = (y) + 3 ∨ ((y) + 7 ≤ ((y + 2)) ∧ ((y + 2)) ≤ (y) + 11)) ∨ (((y + 2)) = (y) + 1 ∧ (((61 + 2 * j + 1)) = 6 ∨ (133 ≤ ((61 + 2 * j + 1)) ∧ ((61 + 2 * j + 1)) < 157)))) := by intros; omega
theorem dW_814 (x y : Nat) (hxy : x + 76 ≤ y) : ¬ (((x + 28)) = (x) + 24 ∨ ((x + 28)) = (x) + 27 ∨ ((x) + 58 ≤ ((x + 28)) ∧ ((x + 28)) ≤ (x) + 67) ∨ (((x + 28)) = (x) + 1 ∧ (11) = 11) ∨ ((x + 28)) = (x) + 6) := by omega
theorem dW_815 (x y : Nat) (hxy : x + 76 ≤ y) : ∀ k : Nat, k < 24 → ¬ (((x + 28 + 5)) = (x) + 24 ∨ ((x + 28 + 5)) = (x) + 27 ∨ ((x) + 58 ≤ ((x + 28 + 5)) ∧ ((x + 28 + 5)) ≤ (x) + 67) ∨ (((x + 28 + 5)) = (x) + 1 ∧ ((0 + k)) = 11) ∨ ((x + 28 + 5)) = (x) + 6) := by intros; omega
theorem dW_816 (x y : Nat) (hxy : x + 76 ≤ y) : ¬ ((((y + 2)) = (y) + 3 ∨ ((y) + 7 ≤ ((y + 2)) ∧ ((y + 2)) ≤ (y) + 11)) ∨ (((y + 2)) = (y) + 1 ∧ ((6) = 6 ∨ (133 ≤ (6) ∧ (6) < 157)))) := by omega
theorem dW_817 (x y : Nat) (hxy : x + 76 ≤ y) : ∀ k : Nat, k < 24 → ¬ ((((y + 2)) = (y) + 3 ∨ ((y) + 7 ≤ ((y + 2)) ∧ ((y + 2)) ≤ (y) + 11)) ∨ (((y + 2)) = (y) + 1 ∧ (((133 + k)) = 6 ∨ (133 ≤ ((133 + k)) ∧ ((133 + k)) < 157)))) := by intros; omega
set_option maxHeartbeats 4000000 in
set_option maxRecDepth 100000 in
theorem lc_tell {p : Program} {l : Launch} {e : Env} {s : State} {m : MethodId} {below : List Frame} {meth : Method} {c : Code} {b L x y : Nat} {xs : Nat → Int32} {E : zz_E} {Q : State → Prop} (hA : zz_LA p s m c b L xs E x y) (i : Int32) (hi : 0 ≤ i.toInt ∧ i.toInt + 6 ≤ L) (σ : zz_S) (H : Heap) (locs : List Loc) (ls : Array Slot) (hR : zz_RL σ x y) (hQ : zz_RD σ x y) (hP : zz_P E σ H) (hS : va_S (zz_A E) s.heap H locs) (hl : lv_has ls 4 [(0, .ref b), (1, .ref x), (2, .ref y), (3, .int i)])
    (kk : ∀ (σ1 : zz_S) (H1 : Heap) (locs1 : List Loc), zz_RL σ1 x y → zz_RD σ1 x y → zz_P E σ1 H1 → va_S (zz_A E) s.heap H1 locs1 → W p l e room_1 s m #[Value.ref b] below meth c H1 locs1 600000 7302250 Q (F0 m 1384 ls [])) : W p l e room_1 s m #[Value.ref b] below meth c H locs 600000 7302250 Q (F0 m 1302 ls []) := by
  obtain ⟨hx, hb, hml, hown, hts, hX, hbl, hbE, hL, gL, gM, hxy, hK⟩ := hA
  have hbA : ¬ zz_A E b := fun h => absurd (hbE b h) (Nat.not_le.mpr hbl)
  have k_1 : (1 : Int32).toInt = 1 := by decide +kernel
  refine lv_aload_n hx hb dL_law_1302 rfl (lv_at hl 1 rfl) ?_
  refine lv_aload_n hx hb dL_law_1303 rfl (lv_at hl 0 rfl) ?_
  refine lv_iload_n hx hb dL_law_1304 rfl (lv_at hl 3 rfl) ?_
  refine lv_iconst (v := 1) hx hb dL_law_1305 (by decide) ?_
  refine lv_iadd hx hb dL_law_1306 ?_
  refine lv_topi (fun n1 e1 => ?_)
  have f1 : n1.toInt = (i).toInt + (1 : Int32).toInt := zz_addT e1 (by omega) (by omega)
  refine va_sld hx hb hX hbl hbA hS (vp_in_iff.mpr ⟨by omega, by omega⟩) dL_law_1307 ?_
  refine lv_topi (fun v2 u2 => ?_)
  refine zz_callVi (As := [.int v2]) (rest := []) ⟨hx, hb, hml, hown, hts⟩ hK hP hS (c_X8_tell l E σ x v2 gL hR.1) (cwV 1 hts gL_law_X8_tell rfl rfl rfl (by decide +kernel) ⟨Nat.le_of_ble_eq_true rfl, Nat.le_of_ble_eq_true rfl⟩) (gL.1) rfl rfl hl.1 rfl (Nat.le_of_ble_eq_true rfl) dL_law_1308 ⟨Nat.le_refl _, Nat.le_refl _⟩ (fun r1 σ1 H locs q1 hP hS => ?_)
  try dsimp only at q1
  obtain ⟨w1, p1⟩ := q1
  have B : ∀ a k : Nat, y ≤ a → a ≤ y + 12 → σ1 a k = σ a k := fun a k h1 h2 => w1 a k ((dW_764 x y hxy) a k h1 h2)
  have hJ1 : zz_IM σ1 y := hR.2.1.far B
  refine lv_pop hx hb dL_law_1311 rfl ?_
  refine lv_aload_n hx hb dL_law_1312 rfl (lv_at hl 2 rfl) ?_
  refine lv_aload_n hx hb dL_law_1313 rfl (lv_at hl 0 rfl) ?_
  refine lv_iload_n hx hb dL_law_1314 rfl (lv_at hl 3 rfl) ?_
  refine lv_iconst (v := 1) hx hb dL_law_1315 (by decide) ?_
  refine lv_iadd hx hb dL_law_1316 ?_
  refine lv_topi (fun n4 e4 => ?_)
  have f4 : n4.toInt = (i).toInt + (1 : Int32).toInt := zz_addT e4 (by omega) (by omega)
  refine va_sld hx hb hX hbl hbA hS (vp_in_iff.mpr ⟨by omega, by omega⟩) dL_law_1317 ?_
  refine lv_topi (fun v5 u5 => ?_)
  have z5 : v5 = v2 := by rw [u5, u2, e4, e1]
  have zt5 := congrArg Int32.toInt z5
  refine zz_callVi (As := [.int v5]) (rest := []) ⟨hx, hb, hml, hown, hts⟩ hK hP hS (c_X9_tell l E σ1 y v5 gM hJ1) (cwV 1 hts gL_law_X9_tell rfl rfl rfl (by decide +kernel) ⟨Nat.le_of_ble_eq_true rfl, Nat.le_of_ble_eq_true rfl⟩) (gM.1) rfl rfl hl.1 rfl (Nat.le_of_ble_eq_true rfl) dL_law_1318 ⟨Nat.le_refl _, Nat.le_refl _⟩ (fun r2 σ2 H locs q2 hP hS => ?_)
  try dsimp only at q2
  obtain ⟨w2, p2⟩ := q2
  have A : ∀ a k : Nat, x ≤ a → a < x + 76 → σ2 a k = σ1 a k := fun a k h1 h2 => w2 a k ((dW_765 x y hxy) a k h1 h2)
  obtain ⟨i1, p1⟩ := p1
  obtain ⟨i2, p2⟩ := p2
  try simp only [z5] at p2
  obtain ⟨h0, h1, h2, h3, h4, h5, h6⟩ := hR.2.2.1
  have ga6 := congrArg Int32.toInt (A (x + 1) 11 (by omega) (by omega))
  have gb6 := congrArg Int32.toInt (B (y + 1) 6 (by omega) (by omega))
  have rr2 : zz_RR σ2 (x + 1) (y + 1) := ⟨(congrArg Int32.toInt (A (x + 1) 0 (by omega) (by omega))).trans ((congrArg Int32.toInt (w1 (x + 1) 0 (dW_770 x y hxy))).trans (h0.trans ((congrArg Int32.toInt (B (y + 1) 0 (by omega) (by omega))).symm.trans (congrArg Int32.toInt (w2 (y + 1) 0 (dW_771 x y hxy))).symm))), (congrArg Int32.toInt (A (x + 1) 1 (by omega) (by omega))).trans ((congrArg Int32.toInt (w1 (x + 1) 1 (dW_772 x y hxy))).trans (h1.trans ((congrArg Int32.toInt (B (y + 1) 4 (by omega) (by omega))).symm.trans (congrArg Int32.toInt (w2 (y + 1) 4 (dW_773 x y hxy))).symm))), (congrArg Int32.toInt (A (x + 1) 2 (by omega) (by omega))).trans ((congrArg Int32.toInt (w1 (x + 1) 2 (dW_774 x y hxy))).trans (h2.trans ((congrArg Int32.toInt (B (y + 1) 1 (by omega) (by omega))).symm.trans (congrArg Int32.toInt (w2 (y + 1) 1 (dW_775 x y hxy))).symm))), (congrArg Int32.toInt (A (x + 1) 4 (by omega) (by omega))).trans ((congrArg Int32.toInt (w1 (x + 1) 4 (dW_776 x y hxy))).trans (h3.trans ((congrArg Int32.toInt (B (y + 1) 2 (by omega) (by omega))).symm.trans (congrArg Int32.toInt (w2 (y + 1) 2 (dW_777 x y hxy))).symm))), (congrArg Int32.toInt (A (x + 1) 6 (by omega) (by omega))).trans ((congrArg Int32.toInt (w1 (x + 1) 6 (dW_778 x y hxy))).trans (h4.trans ((congrArg Int32.toInt (B (y + 1) 3 (by omega) (by omega))).symm.trans (congrArg Int32.toInt (w2 (y + 1) 3 (dW_779 x y hxy))).symm))), (congrArg Int32.toInt (A (x + 1) 9 (by omega) (by omega))).trans ((congrArg Int32.toInt (w1 (x + 1) 9 (dW_780 x y hxy))).trans (h5.trans ((congrArg Int32.toInt (B (y + 1) 5 (by omega) (by omega))).symm.trans (congrArg Int32.toInt (w2 (y + 1) 5 (dW_781 x y hxy))).symm))), by omega⟩
  have hRL : zz_RL σ2 x y := hR.real i1 i2 A B rr2 (fun k => w1 (x + 28) k ((dW_766 x y hxy) k)) (w1 x 2 (dW_767 x y hxy)) (fun k => w2 (y + 2) k ((dW_768 x y hxy) k)) (w2 y 2 (dW_769 x y hxy))
  obtain ⟨hqD, hqW, hqK, hqB, hqN, hqC, hqL, hqT, hqP, hqX, hqF, hqG, hqV⟩ := hQ
  obtain ⟨aD, aW, aKD, aKW, aB, aN, aC, aL, aT, aP, aX, aKP, aKX⟩ := zz_aX A
  obtain ⟨bD, bW, bKD, bKW, bB, bN, bC, bL, bT, bP, bX, bKP, bKX⟩ := zz_bM hR.2.1 B
  obtain ⟨aF, aKF, aV, aKV⟩ := zy_aX2 A
  obtain ⟨bF, bKF, bV, bKV⟩ := zy_bM2 B
  have rD : zz_DX σ2 (x + 1) = zz_DM σ2 (y + 1) := by rw [aD, zz_DXk (r := x + 1) w1 (dW_782 x y hxy), zz_DMk (a := y + 1) w2 (dW_783 x y hxy), bD, hqD]
  have rW : zz_PX 0 σ2 (x + 1) = zz_PM 0 σ2 (y + 1) := by rw [aW, zz_PXk (f := 0) (r := x + 1) w1 (dW_784 x y hxy), zz_PMk (f := 0) (a := y + 1) w2 (dW_785 x y hxy), bW, hqW]
  have rB : zz_HX 0 σ2 x = zz_HM σ2 (y + 4) := by rw [aB, zz_HX.eq (f := 0) (x := x) (fun j hj => w1 _ _ ((dW_786 x y hxy) j hj)), zz_HM.eq (a := y + 4) (fun j hj => w2 _ _ ((dW_787 x y hxy) j hj)), bB, hqB]
  have rN : zz_HX 1 σ2 x = zz_HM σ2 (y + 5) := by rw [aN, zz_HX.eq (f := 1) (x := x) (fun j hj => w1 _ _ ((dW_788 x y hxy) j hj)), zz_HM.eq (a := y + 5) (fun j hj => w2 _ _ ((dW_789 x y hxy) j hj)), bN, hqN]
  have rC : zz_CX σ2 x = zz_CM σ2 (y + 6) := by rw [aC, zz_CX.eq (x := x) (fun j hj k hk => w1 _ _ ((dW_790 x y hxy) j hj k hk)), zz_CM.eq (a := y + 6) (fun k hk => w2 _ _ ((dW_791 x y hxy) k hk)), bC, hqC]
  have rL : (σ2 (x + 56) 1).toInt = (σ2 y 18).toInt := by rw [aL, congrArg Int32.toInt (w1 (x + 56) 1 (dW_792 x y hxy)), congrArg Int32.toInt (w2 y 18 (dW_793 x y hxy)), bL, hqL]
  have rT : zz_TV σ2 (x + 56 + 1) = zz_TV σ2 (y + 12) := by rw [aT, zz_TV.eq (a := x + 56 + 1) (b := x + 56 + 1) (fun k _ => w1 _ k ((dW_794 x y hxy) k)), zz_TV.eq (a := y + 12) (b := y + 12) (fun k _ => w2 _ k ((dW_795 x y hxy) k)), bT, hqT]
  have rP : zz_Tp σ2 (x + 1 + 4) (σ2 (x + 1) 9).toInt = zz_Tm σ2 (y + 1) := by rw [aP, zz_Tp.all (a := x + 1 + 4) (b := x + 1 + 4) (congrArg Int32.toInt (w1 (x + 1) 9 (dW_780 x y hxy))) (fun k => w1 _ k ((dW_796 x y hxy) k)), zz_Tm.eq (a := y + 1) (b := y + 1) (w2 (y + 1) 5 (dW_781 x y hxy)) hJ1.1.2.2.2.2.1.2 (fun k hk => w2 (y + 1) (73 + k) ((dW_797 x y hxy) k hk)), bP, hqP]
  have rX : zz_tts (zz_XT σ2 (x + 1)) (zz_MT σ2 (y + 1)) := by rw [aX, zz_XT.all (r := x + 1) (fun a ha k => w1 a k ((dW_798 x y hxy) a ha k)), zz_MT.hi (a := y + 1) (b := y + 1) (fun k hk => w2 (y + 1) k ((dW_799 x y hxy) k hk)), bX]; exact hqX
  have rF : zz_PX 1 σ2 (x + 1) = zz_PM 1 σ2 (y + 1) := by rw [aF, zz_PXk (f := 1) (r := x + 1) w1 (dW_800 x y hxy), zz_PMk (f := 1) (a := y + 1) w2 (dW_801 x y hxy), bF, hqF]
  have rG : zy_FB (zz_PM 1 σ2 (y + 1)) := by rw [zz_PMk (f := 1) (a := y + 1) w2 (dW_801 x y hxy), bF]; exact hqG
  have rK : (σ2 x 2).toInt = 0 ∨ (zz_DX σ2 (x + 28) = zz_DM σ2 (y + 2) ∧ zz_PX 0 σ2 (x + 28) = zz_PM 0 σ2 (y + 2) ∧ zz_Tp σ2 (x + 28 + 4) (σ2 (x + 28) 9).toInt = zz_Tm σ2 (y + 2) ∧ zz_tts (zz_XT σ2 (x + 28)) (zz_MT σ2 (y + 2)) ∧ zz_PX 1 σ2 (x + 28) = zz_PM 1 σ2 (y + 2) ∧ zy_FB (zz_PM 1 σ2 (y + 2)) ∧ zy_wv σ2 (x + 28 + 5) 0 (σ2 (x + 28) 11).toInt = zy_wv σ2 (y + 2) 133 (σ2 (y + 2) 6).toInt) := hqK.elim (fun q => Or.inl ((congrArg Int32.toInt ((A x 2 (by omega) (by omega)).trans (w1 x 2 (dW_767 x y hxy)))).trans q)) (fun q => Or.inr ⟨by rw [aKD, zz_DXk (r := x + 28) w1 (dW_802 x y hxy), zz_DMk (a := y + 2) w2 (dW_803 x y hxy), bKD, q.1], by rw [aKW, zz_PXk (f := 0) (r := x + 28) w1 (dW_804 x y hxy), zz_PMk (f := 0) (a := y + 2) w2 (dW_805 x y hxy), bKW, q.2.1], by rw [aKP, zz_Tp.all (a := x + 28 + 4) (b := x + 28 + 4) (congrArg Int32.toInt (w1 (x + 28) 9 (dW_806 x y hxy))) (fun k => w1 _ k ((dW_807 x y hxy) k)), zz_Tm.eq (a := y + 2) (b := y + 2) (w2 (y + 2) 5 (dW_808 x y hxy)) hJ1.2.1.2.2.2.2.1.2 (fun k hk => w2 (y + 2) (73 + k) ((dW_809 x y hxy) k hk)), bKP, q.2.2.1], by rw [aKX, zz_XT.all (r := x + 28) (fun a ha k => w1 a k ((dW_810 x y hxy) a ha k)), zz_MT.hi (a := y + 2) (b := y + 2) (fun k hk => w2 (y + 2) k ((dW_811 x y hxy) k hk)), bKX]; exact q.2.2.2.1, by rw [aKF, zz_PXk (f := 1) (r := x + 28) w1 (dW_812 x y hxy), zz_PMk (f := 1) (a := y + 2) w2 (dW_813 x y hxy), bKF, q.2.2.2.2.1], by rw [zz_PMk (f := 1) (a := y + 2) w2 (dW_813 x y hxy), bKF]; exact q.2.2.2.2.2.1, by rw [aKV, zy_wv.eq (a := x + 28 + 5) (a1 := x + 28 + 5) (b := 0) (b1 := 0) (congrArg Int32.toInt (w1 (x + 28) 11 (dW_814 x y hxy))) (fun k hk => w1 (x + 28 + 5) (0 + k) ((dW_815 x y hxy) k hk)), zy_wv.eq (a := y + 2) (a1 := y + 2) (b := 133) (b1 := 133) (congrArg Int32.toInt (w2 (y + 2) 6 (dW_816 x y hxy))) (fun k hk => w2 (y + 2) (133 + k) ((dW_817 x y hxy) k hk)), bKV, q.2.2.2.2.2.2]⟩)
  have eV := hqV.trans bV.symm
  have gv9 : (σ (x + 1) 11).toInt = (σ1 (y + 1) 6).toInt := hR.2.2.1.2.2.2.2.2.2.trans (congrArg Int32.toInt (B (y + 1) 6 (by omega) (by omega))).symm
  have hrr0 : r1.toInt = r2.toInt := by omega
  have rV : zy_wv σ2 (x + 1 + 5) 0 (σ2 (x + 1) 11).toInt = zy_wv σ2 (y + 1) 133 (σ2 (y + 1) 6).toInt := by
    by_cases q : r1.toInt < 0
    · rw [aV, p1.2.1 q, p2.2.1 (by omega), eV]
    · rw [aV, p1.2.2 (by omega), p2.2.2 (by omega), eV, gv9]
  have hQ2 : zz_RD σ2 x y := ⟨rD, rW, rK, rB, rN, rC, rL, rT, rP, rX, rF, rG, rV⟩
  refine lv_pop hx hb dL_law_1321 rfl ?_
  refine lv_goto (tgt := 1384) hx hb dL_law_1322 (by decide) ?_
  exact kk _ _ _ hRL hQ2 hP hS
theorem gL_law_X8_check : GoodIn wsL_law (wsV RL 162 RX8 yX8_check wzX8_check) := wz_coL bm_996 (wz_coL bm_997 (wz_coL bm_998 (wz_coL bm_2 (wz_inL bm_999))))
theorem gL_law_X9_check : GoodIn wsL_law (wsV RL 165 RX9 yX9_check wzX9_check) := wz_coL bm_1000 (wz_coL bm_1001 (wz_coL bm_1002 (wz_coL bm_5 (wz_inL bm_1003))))
theorem dW_818 (x y : Nat) (hxy : x + 76 ≤ y) : ∀ a k : Nat, y ≤ a → a ≤ y + 12 → ¬ ((a) = (x) + 24 ∨ (a) = (x) + 27 ∨ ((x) + 58 ≤ (a) ∧ (a) ≤ (x) + 67) ∨ ((a) = (x) + 1 ∧ (k) = 11)) := by intros; omega
theorem dW_819 (x y : Nat) (hxy : x + 76 ≤ y) : ∀ a k : Nat, x ≤ a → a < x + 76 → ¬ (((a) = (y) + 3 ∨ ((y) + 7 ≤ (a) ∧ (a) ≤ (y) + 11)) ∨ ((a) = (y) + 1 ∧ (k) = 6)) := by intros; omega
theorem dW_820 (x y : Nat) (hxy : x + 76 ≤ y) : ∀ k : Nat, ¬ (((x + 28)) = (x) + 24 ∨ ((x + 28)) = (x) + 27 ∨ ((x) + 58 ≤ ((x + 28)) ∧ ((x + 28)) ≤ (x) + 67) ∨ (((x + 28)) = (x) + 1 ∧ (k) = 11)) := by intros; omega
theorem dW_821 (x y : Nat) (hxy : x + 76 ≤ y) : ¬ ((x) = (x) + 24 ∨ (x) = (x) + 27 ∨ ((x) + 58 ≤ (x) ∧ (x) ≤ (x) + 67) ∨ ((x) = (x) + 1 ∧ (2) = 11)) := by omega
theorem dW_822 (x y : Nat) (hxy : x + 76 ≤ y) : ∀ k : Nat, ¬ ((((y + 2)) = (y) + 3 ∨ ((y) + 7 ≤ ((y + 2)) ∧ ((y + 2)) ≤ (y) + 11)) ∨ (((y + 2)) = (y) + 1 ∧ (k) = 6)) := by intros; omega
theorem dW_823 (x y : Nat) (hxy : x + 76 ≤ y) : ¬ (((y) = (y) + 3 ∨ ((y) + 7 ≤ (y) ∧ (y) ≤ (y) + 11)) ∨ ((y) = (y) + 1 ∧ (2) = 6)) := by omega
theorem dW_824 (x y : Nat) (hxy : x + 76 ≤ y) : ¬ (((x + 1)) = (x) + 24 ∨ ((x + 1)) = (x) + 27 ∨ ((x) + 58 ≤ ((x + 1)) ∧ ((x + 1)) ≤ (x) + 67) ∨ (((x + 1)) = (x) + 1 ∧ (0) = 11)) := by omega
theorem dW_825 (x y : Nat) (hxy : x + 76 ≤ y) : ¬ ((((y + 1)) = (y) + 3 ∨ ((y) + 7 ≤ ((y + 1)) ∧ ((y + 1)) ≤ (y) + 11)) ∨ (((y + 1)) = (y) + 1 ∧ (0) = 6)) := by omega
theorem dW_826 (x y : Nat) (hxy : x + 76 ≤ y) : ¬ (((x + 1)) = (x) + 24 ∨ ((x + 1)) = (x) + 27 ∨ ((x) + 58 ≤ ((x + 1)) ∧ ((x + 1)) ≤ (x) + 67) ∨ (((x + 1)) = (x) + 1 ∧ (1) = 11)) := by omega
theorem dW_827 (x y : Nat) (hxy : x + 76 ≤ y) : ¬ ((((y + 1)) = (y) + 3 ∨ ((y) + 7 ≤ ((y + 1)) ∧ ((y + 1)) ≤ (y) + 11)) ∨ (((y + 1)) = (y) + 1 ∧ (4) = 6)) := by omega
theorem dW_828 (x y : Nat) (hxy : x + 76 ≤ y) : ¬ (((x + 1)) = (x) + 24 ∨ ((x + 1)) = (x) + 27 ∨ ((x) + 58 ≤ ((x + 1)) ∧ ((x + 1)) ≤ (x) + 67) ∨ (((x + 1)) = (x) + 1 ∧ (2) = 11)) := by omega
theorem dW_829 (x y : Nat) (hxy : x + 76 ≤ y) : ¬ ((((y + 1)) = (y) + 3 ∨ ((y) + 7 ≤ ((y + 1)) ∧ ((y + 1)) ≤ (y) + 11)) ∨ (((y + 1)) = (y) + 1 ∧ (1) = 6)) := by omega
theorem dW_830 (x y : Nat) (hxy : x + 76 ≤ y) : ¬ (((x + 1)) = (x) + 24 ∨ ((x + 1)) = (x) + 27 ∨ ((x) + 58 ≤ ((x + 1)) ∧ ((x + 1)) ≤ (x) + 67) ∨ (((x + 1)) = (x) + 1 ∧ (4) = 11)) := by omega
theorem dW_831 (x y : Nat) (hxy : x + 76 ≤ y) : ¬ ((((y + 1)) = (y) + 3 ∨ ((y) + 7 ≤ ((y + 1)) ∧ ((y + 1)) ≤ (y) + 11)) ∨ (((y + 1)) = (y) + 1 ∧ (2) = 6)) := by omega
theorem dW_832 (x y : Nat) (hxy : x + 76 ≤ y) : ¬ (((x + 1)) = (x) + 24 ∨ ((x + 1)) = (x) + 27 ∨ ((x) + 58 ≤ ((x + 1)) ∧ ((x + 1)) ≤ (x) + 67) ∨ (((x + 1)) = (x) + 1 ∧ (6) = 11)) := by omega
theorem dW_833 (x y : Nat) (hxy : x + 76 ≤ y) : ¬ ((((y + 1)) = (y) + 3 ∨ ((y) + 7 ≤ ((y + 1)) ∧ ((y + 1)) ≤ (y) + 11)) ∨ (((y + 1)) = (y) + 1 ∧ (3) = 6)) := by omega
theorem dW_834 (x y : Nat) (hxy : x + 76 ≤ y) : ¬ (((x + 1)) = (x) + 24 ∨ ((x + 1)) = (x) + 27 ∨ ((x) + 58 ≤ ((x + 1)) ∧ ((x + 1)) ≤ (x) + 67) ∨ (((x + 1)) = (x) + 1 ∧ (9) = 11)) := by omega
theorem dW_835 (x y : Nat) (hxy : x + 76 ≤ y) : ¬ ((((y + 1)) = (y) + 3 ∨ ((y) + 7 ≤ ((y + 1)) ∧ ((y + 1)) ≤ (y) + 11)) ∨ (((y + 1)) = (y) + 1 ∧ (5) = 6)) := by omega
theorem dW_836 (x y : Nat) (hxy : x + 76 ≤ y) : ∀ j : Nat, j < 9 → ∀ k : Nat, k < 6 → ¬ (((x + 1 + 6 + 1 * j)) = (x) + 24 ∨ ((x + 1 + 6 + 1 * j)) = (x) + 27 ∨ ((x) + 58 ≤ ((x + 1 + 6 + 1 * j)) ∧ ((x + 1 + 6 + 1 * j)) ≤ (x) + 67) ∨ (((x + 1 + 6 + 1 * j)) = (x) + 1 ∧ (k) = 11)) := by intros; omega
theorem dW_837 (x y : Nat) (hxy : x + 76 ≤ y) : ∀ k : Nat, 7 ≤ k → k < 61 → ¬ ((((y + 1)) = (y) + 3 ∨ ((y) + 7 ≤ ((y + 1)) ∧ ((y + 1)) ≤ (y) + 11)) ∨ (((y + 1)) = (y) + 1 ∧ (k) = 6)) := by intros; omega
theorem dW_838 (x y : Nat) (hxy : x + 76 ≤ y) : ∀ j : Nat, j < 6 → ¬ (((x + 1 + 15 + 1 * j)) = (x) + 24 ∨ ((x + 1 + 15 + 1 * j)) = (x) + 27 ∨ ((x) + 58 ≤ ((x + 1 + 15 + 1 * j)) ∧ ((x + 1 + 15 + 1 * j)) ≤ (x) + 67) ∨ (((x + 1 + 15 + 1 * j)) = (x) + 1 ∧ (0) = 11)) := by intros; omega
theorem dW_839 (x y : Nat) (hxy : x + 76 ≤ y) : ∀ j : Nat, j < 6 → ¬ ((((y + 1)) = (y) + 3 ∨ ((y) + 7 ≤ ((y + 1)) ∧ ((y + 1)) ≤ (y) + 11)) ∨ (((y + 1)) = (y) + 1 ∧ ((61 + 2 * j + 0)) = 6)) := by intros; omega
theorem dW_840 (x y : Nat) (hxy : x + 76 ≤ y) : ∀ j : Nat, j < 4 → ¬ (((x + 68 + 2 * j)) = (x) + 24 ∨ ((x + 68 + 2 * j)) = (x) + 27 ∨ ((x) + 58 ≤ ((x + 68 + 2 * j)) ∧ ((x + 68 + 2 * j)) ≤ (x) + 67) ∨ (((x + 68 + 2 * j)) = (x) + 1 ∧ (0) = 11)) := by intros; omega
theorem dW_841 (x y : Nat) (hxy : x + 76 ≤ y) : ∀ j : Nat, j < 4 → ¬ ((((y + 4)) = (y) + 3 ∨ ((y) + 7 ≤ ((y + 4)) ∧ ((y + 4)) ≤ (y) + 11)) ∨ (((y + 4)) = (y) + 1 ∧ (j) = 6)) := by intros; omega
theorem dW_842 (x y : Nat) (hxy : x + 76 ≤ y) : ∀ j : Nat, j < 4 → ¬ (((x + 68 + 2 * j)) = (x) + 24 ∨ ((x + 68 + 2 * j)) = (x) + 27 ∨ ((x) + 58 ≤ ((x + 68 + 2 * j)) ∧ ((x + 68 + 2 * j)) ≤ (x) + 67) ∨ (((x + 68 + 2 * j)) = (x) + 1 ∧ (1) = 11)) := by intros; omega
theorem dW_843 (x y : Nat) (hxy : x + 76 ≤ y) : ∀ j : Nat, j < 4 → ¬ ((((y + 5)) = (y) + 3 ∨ ((y) + 7 ≤ ((y + 5)) ∧ ((y + 5)) ≤ (y) + 11)) ∨ (((y + 5)) = (y) + 1 ∧ (j) = 6)) := by intros; omega
theorem dW_844 (x y : Nat) (hxy : x + 76 ≤ y) : ∀ j : Nat, j < 4 → ∀ k : Nat, k < 24 → ¬ (((x + 68 + 2 * j + 1)) = (x) + 24 ∨ ((x + 68 + 2 * j + 1)) = (x) + 27 ∨ ((x) + 58 ≤ ((x + 68 + 2 * j + 1)) ∧ ((x + 68 + 2 * j + 1)) ≤ (x) + 67) ∨ (((x + 68 + 2 * j + 1)) = (x) + 1 ∧ (k) = 11)) := by intros; omega
theorem dW_845 (x y : Nat) (hxy : x + 76 ≤ y) : ∀ k : Nat, k < 96 → ¬ ((((y + 6)) = (y) + 3 ∨ ((y) + 7 ≤ ((y + 6)) ∧ ((y + 6)) ≤ (y) + 11)) ∨ (((y + 6)) = (y) + 1 ∧ (k) = 6)) := by intros; omega
theorem dW_846 (x y : Nat) (hxy : x + 76 ≤ y) : ¬ (((x + 56)) = (x) + 24 ∨ ((x + 56)) = (x) + 27 ∨ ((x) + 58 ≤ ((x + 56)) ∧ ((x + 56)) ≤ (x) + 67) ∨ (((x + 56)) = (x) + 1 ∧ (1) = 11)) := by omega
theorem dW_847 (x y : Nat) (hxy : x + 76 ≤ y) : ¬ (((y) = (y) + 3 ∨ ((y) + 7 ≤ (y) ∧ (y) ≤ (y) + 11)) ∨ ((y) = (y) + 1 ∧ (18) = 6)) := by omega
theorem dW_848 (x y : Nat) (hxy : x + 76 ≤ y) : ∀ k : Nat, ¬ (((x + 56 + 1)) = (x) + 24 ∨ ((x + 56 + 1)) = (x) + 27 ∨ ((x) + 58 ≤ ((x + 56 + 1)) ∧ ((x + 56 + 1)) ≤ (x) + 67) ∨ (((x + 56 + 1)) = (x) + 1 ∧ (k) = 11)) := by intros; omega
theorem dW_849 (x y : Nat) (hxy : x + 76 ≤ y) : ∀ k : Nat, ¬ ((((y + 12)) = (y) + 3 ∨ ((y) + 7 ≤ ((y + 12)) ∧ ((y + 12)) ≤ (y) + 11)) ∨ (((y + 12)) = (y) + 1 ∧ (k) = 6)) := by intros; omega
theorem dW_850 (x y : Nat) (hxy : x + 76 ≤ y) : ∀ k : Nat, ¬ (((x + 1 + 4)) = (x) + 24 ∨ ((x + 1 + 4)) = (x) + 27 ∨ ((x) + 58 ≤ ((x + 1 + 4)) ∧ ((x + 1 + 4)) ≤ (x) + 67) ∨ (((x + 1 + 4)) = (x) + 1 ∧ (k) = 11)) := by intros; omega
theorem dW_851 (x y : Nat) (hxy : x + 76 ≤ y) : ∀ k : Nat, k < 60 → ¬ ((((y + 1)) = (y) + 3 ∨ ((y) + 7 ≤ ((y + 1)) ∧ ((y + 1)) ≤ (y) + 11)) ∨ (((y + 1)) = (y) + 1 ∧ ((73 + k)) = 6)) := by intros; omega
theorem dW_852 (x y : Nat) (hxy : x + 76 ≤ y) : ∀ a : Nat, (a = x + 1 + 21 ∨ a = x + 1 + 22 ∨ a = x + 1 + 24 ∨ a = x + 1 + 25) → ∀ k : Nat, ¬ ((a) = (x) + 24 ∨ (a) = (x) + 27 ∨ ((x) + 58 ≤ (a) ∧ (a) ≤ (x) + 67) ∨ ((a) = (x) + 1 ∧ (k) = 11)) := by intros; omega
theorem dW_853 (x y : Nat) (hxy : x + 76 ≤ y) : ∀ k : Nat, 157 ≤ k → ¬ ((((y + 1)) = (y) + 3 ∨ ((y) + 7 ≤ ((y + 1)) ∧ ((y + 1)) ≤ (y) + 11)) ∨ (((y + 1)) = (y) + 1 ∧ (k) = 6)) := by intros; omega
theorem dW_854 (x y : Nat) (hxy : x + 76 ≤ y) : ∀ j : Nat, j < 6 → ¬ (((x + 1 + 15 + 1 * j)) = (x) + 24 ∨ ((x + 1 + 15 + 1 * j)) = (x) + 27 ∨ ((x) + 58 ≤ ((x + 1 + 15 + 1 * j)) ∧ ((x + 1 + 15 + 1 * j)) ≤ (x) + 67) ∨ (((x + 1 + 15 + 1 * j)) = (x) + 1 ∧ (1) = 11)) := by intros; omega
theorem dW_855 (x y : Nat) (hxy : x + 76 ≤ y) : ∀ j : Nat, j < 6 → ¬ ((((y + 1)) = (y) + 3 ∨ ((y) + 7 ≤ ((y + 1)) ∧ ((y + 1)) ≤ (y) + 11)) ∨ (((y + 1)) = (y) + 1 ∧ ((61 + 2 * j + 1)) = 6)) := by intros; omega
theorem dW_856 (x y : Nat) (hxy : x + 76 ≤ y) : ∀ j : Nat, j < 9 → ∀ k : Nat, k < 6 → ¬ (((x + 28 + 6 + 1 * j)) = (x) + 24 ∨ ((x + 28 + 6 + 1 * j)) = (x) + 27 ∨ ((x) + 58 ≤ ((x + 28 + 6 + 1 * j)) ∧ ((x + 28 + 6 + 1 * j)) ≤ (x) + 67) ∨ (((x + 28 + 6 + 1 * j)) = (x) + 1 ∧ (k) = 11)) := by intros; omega
theorem dW_857 (x y : Nat) (hxy : x + 76 ≤ y) : ∀ k : Nat, 7 ≤ k → k < 61 → ¬ ((((y + 2)) = (y) + 3 ∨ ((y) + 7 ≤ ((y + 2)) ∧ ((y + 2)) ≤ (y) + 11)) ∨ (((y + 2)) = (y) + 1 ∧ (k) = 6)) := by intros; omega
theorem dW_858 (x y : Nat) (hxy : x + 76 ≤ y) : ∀ j : Nat, j < 6 → ¬ (((x + 28 + 15 + 1 * j)) = (x) + 24 ∨ ((x + 28 + 15 + 1 * j)) = (x) + 27 ∨ ((x) + 58 ≤ ((x + 28 + 15 + 1 * j)) ∧ ((x + 28 + 15 + 1 * j)) ≤ (x) + 67) ∨ (((x + 28 + 15 + 1 * j)) = (x) + 1 ∧ (0) = 11)) := by intros; omega
theorem dW_859 (x y : Nat) (hxy : x + 76 ≤ y) : ∀ j : Nat, j < 6 → ¬ ((((y + 2)) = (y) + 3 ∨ ((y) + 7 ≤ ((y + 2)) ∧ ((y + 2)) ≤ (y) + 11)) ∨ (((y + 2)) = (y) + 1 ∧ ((61 + 2 * j + 0)) = 6)) := by intros; omega
theorem dW_860 (x y : Nat) (hxy : x + 76 ≤ y) : ¬ (((x + 28)) = (x) + 24 ∨ ((x + 28)) = (x) + 27 ∨ ((x) + 58 ≤ ((x + 28)) ∧ ((x + 28)) ≤ (x) + 67) ∨ (((x + 28)) = (x) + 1 ∧ (9) = 11)) := by omega
theorem dW_861 (x y : Nat) (hxy : x + 76 ≤ y) : ∀ k : Nat, ¬ (((x + 28 + 4)) = (x) + 24 ∨ ((x + 28 + 4)) = (x) + 27 ∨ ((x) + 58 ≤ ((x + 28 + 4)) ∧ ((x + 28 + 4)) ≤ (x) + 67) ∨ (((x + 28 + 4)) = (x) + 1 ∧ (k) = 11)) := by intros; omega
theorem dW_862 (x y : Nat) (hxy : x + 76 ≤ y) : ¬ ((((y + 2)) = (y) + 3 ∨ ((y) + 7 ≤ ((y + 2)) ∧ ((y + 2)) ≤ (y) + 11)) ∨ (((y + 2)) = (y) + 1 ∧ (5) = 6)) := by omega
theorem dW_863 (x y : Nat) (hxy : x + 76 ≤ y) : ∀ k : Nat, k < 60 → ¬ ((((y + 2)) = (y) + 3 ∨ ((y) + 7 ≤ ((y + 2)) ∧ ((y + 2)) ≤ (y) + 11)) ∨ (((y + 2)) = (y) + 1 ∧ ((73 + k)) = 6)) := by intros; omega
theorem dW_864 (x y : Nat) (hxy : x + 76 ≤ y) : ∀ a : Nat, (a = x + 28 + 21 ∨ a = x + 28 + 22 ∨ a = x + 28 + 24 ∨ a = x + 28 + 25) → ∀ k : Nat, ¬ ((a) = (x) + 24 ∨ (a) = (x) + 27 ∨ ((x) + 58 ≤ (a) ∧ (a) ≤ (x) + 67) ∨ ((a) = (x) + 1 ∧ (k) = 11)) := by intros; omega
theorem dW_865 (x y : Nat) (hxy : x + 76 ≤ y) : ∀ k : Nat, 157 ≤ k → ¬ ((((y + 2)) = (y) + 3 ∨ ((y) + 7 ≤ ((y + 2)) ∧ ((y + 2)) ≤ (y) + 11)) ∨ (((y + 2)) = (y) + 1 ∧ (k) = 6)) := by intros; omega
theorem dW_866 (x y : Nat) (hxy : x + 76 ≤ y) : ∀ j : Nat, j < 6 → ¬ (((x + 28 + 15 + 1 * j)) = (x) + 24 ∨ ((x + 28 + 15 + 1 * j)) = (x) + 27 ∨ ((x) + 58 ≤ ((x + 28 + 15 + 1 * j)) ∧ ((x + 28 + 15 + 1 * j)) ≤ (x) + 67) ∨ (((x + 28 + 15 + 1 * j)) = (x) + 1 ∧ (1) = 11)) := by intros; omega
theorem dW_867 (x y : Nat) (hxy : x + 76 ≤ y) : ∀ j : Nat, j < 6 → ¬ ((((y + 2)) = (y) + 3 ∨ ((y) + 7 ≤ ((y + 2)) ∧ ((y + 2)) ≤ (y) + 11)) ∨ (((y + 2)) = (y) + 1 ∧ ((61 + 2 * j + 1)) = 6)) := by intros; omega
theorem dW_868 (x y : Nat) (hxy : x + 76 ≤ y) : ¬ (((x + 28)) = (x) + 24 ∨ ((x + 28)) = (x) + 27 ∨ ((x) + 58 ≤ ((x + 28)) ∧ ((x + 28)) ≤ (x) + 67) ∨ (((x + 28)) = (x) + 1 ∧ (11) = 11)) := by omega
theorem dW_869 (x y : Nat) (hxy : x + 76 ≤ y) : ∀ k : Nat, k < 24 → ¬ (((x + 28 + 5)) = (x) + 24 ∨ ((x + 28 + 5)) = (x) + 27 ∨ ((x) + 58 ≤ ((x + 28 + 5)) ∧ ((x + 28 + 5)) ≤ (x) + 67) ∨ (((x + 28 + 5)) = (x) + 1 ∧ ((0 + k)) = 11)) := by intros; omega
theorem dW_870 (x y : Nat) (hxy : x + 76 ≤ y) : ¬ ((((y + 2)) = (y) + 3 ∨ ((y) + 7 ≤ ((y + 2)) ∧ ((y + 2)) ≤ (y) + 11)) ∨ (((y + 2)) = (y) + 1 ∧ (6) = 6)) := by omega
theorem dW_871 (x y : Nat) (hxy : x + 76 ≤ y) : ∀ k : Nat, k < 24 → ¬ ((((y + 2)) = (y) + 3 ∨ ((y) + 7 ≤ ((y + 2)) ∧ ((y + 2)) ≤ (y) + 11)) ∨ (((y + 2)) = (y) + 1 ∧ ((133 + k)) = 6)) := by intros; omega
set_option maxHeartbeats 4000000 in
set_option maxRecDepth 100000 in
theorem lc_check {p : Program} {l : Launch} {e : Env} {s : State} {m : MethodId} {below : List Frame} {meth : Method} {c : Code} {b L x y : Nat} {xs : Nat → Int32} {E : zz_E} {Q : State → Prop} (hA : zz_LA p s m c b L xs E x y) (i : Int32) (hi : 0 ≤ i.toInt ∧ i.toInt + 6 ≤ L) (σ : zz_S) (H : Heap) (locs : List Loc) (ls : Array Slot) (hR : zz_RL σ x y) (hQ : zz_RD σ x y) (hP : zz_P E σ H) (hS : va_S (zz_A E) s.heap H locs) (hl : lv_has ls 4 [(0, .ref b), (1, .ref x), (2, .ref y), (3, .int i)])
    (kk : ∀ (σ1 : zz_S) (H1 : Heap) (locs1 : List Loc), zz_RL σ1 x y → zz_RD σ1 x y → zz_P E σ1 H1 → va_S (zz_A E) s.heap H1 locs1 → W p l e room_1 s m #[Value.ref b] below meth c H1 locs1 600000 7302250 Q (F0 m 1384 ls [])) : W p l e room_1 s m #[Value.ref b] below meth c H locs 600000 7302250 Q (F0 m 1325 ls []) := by
  obtain ⟨hx, hb, hml, hown, hts, hX, hbl, hbE, hL, gL, gM, hxy, hK⟩ := hA
  have hbA : ¬ zz_A E b := fun h => absurd (hbE b h) (Nat.not_le.mpr hbl)
  refine lv_aload_n hx hb dL_law_1325 rfl (lv_at hl 1 rfl) ?_
  refine zz_callVi (As := []) (rest := []) ⟨hx, hb, hml, hown, hts⟩ hK hP hS (c_X8_check l E σ x gL hR.1) (cwV 0 hts gL_law_X8_check rfl rfl rfl (by decide +kernel) ⟨Nat.le_of_ble_eq_true rfl, Nat.le_of_ble_eq_true rfl⟩) (gL.1) rfl rfl hl.1 rfl (Nat.le_of_ble_eq_true rfl) dL_law_1326 ⟨Nat.le_refl _, Nat.le_refl _⟩ (fun r1 σ1 H locs q1 hP hS => ?_)
  try dsimp only at q1
  obtain ⟨w1, p1⟩ := q1
  have B : ∀ a k : Nat, y ≤ a → a ≤ y + 12 → σ1 a k = σ a k := fun a k h1 h2 => w1 a k ((dW_818 x y hxy) a k h1 h2)
  have hJ1 : zz_IM σ1 y := hR.2.1.far B
  refine lv_pop hx hb dL_law_1329 rfl ?_
  refine lv_aload_n hx hb dL_law_1330 rfl (lv_at hl 2 rfl) ?_
  refine zz_callVi (As := []) (rest := []) ⟨hx, hb, hml, hown, hts⟩ hK hP hS (c_X9_check l E σ1 y gM hJ1) (cwV 0 hts gL_law_X9_check rfl rfl rfl (by decide +kernel) ⟨Nat.le_of_ble_eq_true rfl, Nat.le_of_ble_eq_true rfl⟩) (gM.1) rfl rfl hl.1 rfl (Nat.le_of_ble_eq_true rfl) dL_law_1331 ⟨Nat.le_refl _, Nat.le_refl _⟩ (fun r2 σ2 H locs q2 hP hS => ?_)
  try dsimp only at q2
  obtain ⟨w2, p2⟩ := q2
  have A : ∀ a k : Nat, x ≤ a → a < x + 76 → σ2 a k = σ1 a k := fun a k h1 h2 => w2 a k ((dW_819 x y hxy) a k h1 h2)
  obtain ⟨i1, p1⟩ := p1
  obtain ⟨i2, p2⟩ := p2
  obtain ⟨h0, h1, h2, h3, h4, h5, h6⟩ := hR.2.2.1
  have ga6 := congrArg Int32.toInt (A (x + 1) 11 (by omega) (by omega))
  have gb6 := congrArg Int32.toInt (B (y + 1) 6 (by omega) (by omega))
  have rr2 : zz_RR σ2 (x + 1) (y + 1) := ⟨(congrArg Int32.toInt (A (x + 1) 0 (by omega) (by omega))).trans ((congrArg Int32.toInt (w1 (x + 1) 0 (dW_824 x y hxy))).trans (h0.trans ((congrArg Int32.toInt (B (y + 1) 0 (by omega) (by omega))).symm.trans (congrArg Int32.toInt (w2 (y + 1) 0 (dW_825 x y hxy))).symm))), (congrArg Int32.toInt (A (x + 1) 1 (by omega) (by omega))).trans ((congrArg Int32.toInt (w1 (x + 1) 1 (dW_826 x y hxy))).trans (h1.trans ((congrArg Int32.toInt (B (y + 1) 4 (by omega) (by omega))).symm.trans (congrArg Int32.toInt (w2 (y + 1) 4 (dW_827 x y hxy))).symm))), (congrArg Int32.toInt (A (x + 1) 2 (by omega) (by omega))).trans ((congrArg Int32.toInt (w1 (x + 1) 2 (dW_828 x y hxy))).trans (h2.trans ((congrArg Int32.toInt (B (y + 1) 1 (by omega) (by omega))).symm.trans (congrArg Int32.toInt (w2 (y + 1) 1 (dW_829 x y hxy))).symm))), (congrArg Int32.toInt (A (x + 1) 4 (by omega) (by omega))).trans ((congrArg Int32.toInt (w1 (x + 1) 4 (dW_830 x y hxy))).trans (h3.trans ((congrArg Int32.toInt (B (y + 1) 2 (by omega) (by omega))).symm.trans (congrArg Int32.toInt (w2 (y + 1) 2 (dW_831 x y hxy))).symm))), (congrArg Int32.toInt (A (x + 1) 6 (by omega) (by omega))).trans ((congrArg Int32.toInt (w1 (x + 1) 6 (dW_832 x y hxy))).trans (h4.trans ((congrArg Int32.toInt (B (y + 1) 3 (by omega) (by omega))).symm.trans (congrArg Int32.toInt (w2 (y + 1) 3 (dW_833 x y hxy))).symm))), (congrArg Int32.toInt (A (x + 1) 9 (by omega) (by omega))).trans ((congrArg Int32.toInt (w1 (x + 1) 9 (dW_834 x y hxy))).trans (h5.trans ((congrArg Int32.toInt (B (y + 1) 5 (by omega) (by omega))).symm.trans (congrArg Int32.toInt (w2 (y + 1) 5 (dW_835 x y hxy))).symm))), by omega⟩
  have hRL : zz_RL σ2 x y := hR.real i1 i2 A B rr2 (fun k => w1 (x + 28) k ((dW_820 x y hxy) k)) (w1 x 2 (dW_821 x y hxy)) (fun k => w2 (y + 2) k ((dW_822 x y hxy) k)) (w2 y 2 (dW_823 x y hxy))
  obtain ⟨hqD, hqW, hqK, hqB, hqN, hqC, hqL, hqT, hqP, hqX, hqF, hqG, hqV⟩ := hQ
  obtain ⟨aD, aW, aKD, aKW, aB, aN, aC, aL, aT, aP, aX, aKP, aKX⟩ := zz_aX A
  obtain ⟨bD, bW, bKD, bKW, bB, bN, bC, bL, bT, bP, bX, bKP, bKX⟩ := zz_bM hR.2.1 B
  obtain ⟨aF, aKF, aV, aKV⟩ := zy_aX2 A
  obtain ⟨bF, bKF, bV, bKV⟩ := zy_bM2 B
  have rD : zz_DX σ2 (x + 1) = zz_DM σ2 (y + 1) := by rw [aD, zz_DXk (r := x + 1) w1 (dW_836 x y hxy), zz_DMk (a := y + 1) w2 (dW_837 x y hxy), bD, hqD]
  have rW : zz_PX 0 σ2 (x + 1) = zz_PM 0 σ2 (y + 1) := by rw [aW, zz_PXk (f := 0) (r := x + 1) w1 (dW_838 x y hxy), zz_PMk (f := 0) (a := y + 1) w2 (dW_839 x y hxy), bW, hqW]
  have rB : zz_HX 0 σ2 x = zz_HM σ2 (y + 4) := by rw [aB, zz_HX.eq (f := 0) (x := x) (fun j hj => w1 _ _ ((dW_840 x y hxy) j hj)), zz_HM.eq (a := y + 4) (fun j hj => w2 _ _ ((dW_841 x y hxy) j hj)), bB, hqB]
  have rN : zz_HX 1 σ2 x = zz_HM σ2 (y + 5) := by rw [aN, zz_HX.eq (f := 1) (x := x) (fun j hj => w1 _ _ ((dW_842 x y hxy) j hj)), zz_HM.eq (a := y + 5) (fun j hj => w2 _ _ ((dW_843 x y hxy) j hj)), bN, hqN]
  have rC : zz_CX σ2 x = zz_CM σ2 (y + 6) := by rw [aC, zz_CX.eq (x := x) (fun j hj k hk => w1 _ _ ((dW_844 x y hxy) j hj k hk)), zz_CM.eq (a := y + 6) (fun k hk => w2 _ _ ((dW_845 x y hxy) k hk)), bC, hqC]
  have rL : (σ2 (x + 56) 1).toInt = (σ2 y 18).toInt := by rw [aL, congrArg Int32.toInt (w1 (x + 56) 1 (dW_846 x y hxy)), congrArg Int32.toInt (w2 y 18 (dW_847 x y hxy)), bL, hqL]
  have rT : zz_TV σ2 (x + 56 + 1) = zz_TV σ2 (y + 12) := by rw [aT, zz_TV.eq (a := x + 56 + 1) (b := x + 56 + 1) (fun k _ => w1 _ k ((dW_848 x y hxy) k)), zz_TV.eq (a := y + 12) (b := y + 12) (fun k _ => w2 _ k ((dW_849 x y hxy) k)), bT, hqT]
  have rP : zz_Tp σ2 (x + 1 + 4) (σ2 (x + 1) 9).toInt = zz_Tm σ2 (y + 1) := by rw [aP, zz_Tp.all (a := x + 1 + 4) (b := x + 1 + 4) (congrArg Int32.toInt (w1 (x + 1) 9 (dW_834 x y hxy))) (fun k => w1 _ k ((dW_850 x y hxy) k)), zz_Tm.eq (a := y + 1) (b := y + 1) (w2 (y + 1) 5 (dW_835 x y hxy)) hJ1.1.2.2.2.2.1.2 (fun k hk => w2 (y + 1) (73 + k) ((dW_851 x y hxy) k hk)), bP, hqP]
  have rX : zz_tts (zz_XT σ2 (x + 1)) (zz_MT σ2 (y + 1)) := by rw [aX, zz_XT.all (r := x + 1) (fun a ha k => w1 a k ((dW_852 x y hxy) a ha k)), zz_MT.hi (a := y + 1) (b := y + 1) (fun k hk => w2 (y + 1) k ((dW_853 x y hxy) k hk)), bX]; exact hqX
  have rF : zz_PX 1 σ2 (x + 1) = zz_PM 1 σ2 (y + 1) := by rw [aF, zz_PXk (f := 1) (r := x + 1) w1 (dW_854 x y hxy), zz_PMk (f := 1) (a := y + 1) w2 (dW_855 x y hxy), bF, hqF]
  have rG : zy_FB (zz_PM 1 σ2 (y + 1)) := by rw [zz_PMk (f := 1) (a := y + 1) w2 (dW_855 x y hxy), bF]; exact hqG
  have rK : (σ2 x 2).toInt = 0 ∨ (zz_DX σ2 (x + 28) = zz_DM σ2 (y + 2) ∧ zz_PX 0 σ2 (x + 28) = zz_PM 0 σ2 (y + 2) ∧ zz_Tp σ2 (x + 28 + 4) (σ2 (x + 28) 9).toInt = zz_Tm σ2 (y + 2) ∧ zz_tts (zz_XT σ2 (x + 28)) (zz_MT σ2 (y + 2)) ∧ zz_PX 1 σ2 (x + 28) = zz_PM 1 σ2 (y + 2) ∧ zy_FB (zz_PM 1 σ2 (y + 2)) ∧ zy_wv σ2 (x + 28 + 5) 0 (σ2 (x + 28) 11).toInt = zy_wv σ2 (y + 2) 133 (σ2 (y + 2) 6).toInt) := hqK.elim (fun q => Or.inl ((congrArg Int32.toInt ((A x 2 (by omega) (by omega)).trans (w1 x 2 (dW_821 x y hxy)))).trans q)) (fun q => Or.inr ⟨by rw [aKD, zz_DXk (r := x + 28) w1 (dW_856 x y hxy), zz_DMk (a := y + 2) w2 (dW_857 x y hxy), bKD, q.1], by rw [aKW, zz_PXk (f := 0) (r := x + 28) w1 (dW_858 x y hxy), zz_PMk (f := 0) (a := y + 2) w2 (dW_859 x y hxy), bKW, q.2.1], by rw [aKP, zz_Tp.all (a := x + 28 + 4) (b := x + 28 + 4) (congrArg Int32.toInt (w1 (x + 28) 9 (dW_860 x y hxy))) (fun k => w1 _ k ((dW_861 x y hxy) k)), zz_Tm.eq (a := y + 2) (b := y + 2) (w2 (y + 2) 5 (dW_862 x y hxy)) hJ1.2.1.2.2.2.2.1.2 (fun k hk => w2 (y + 2) (73 + k) ((dW_863 x y hxy) k hk)), bKP, q.2.2.1], by rw [aKX, zz_XT.all (r := x + 28) (fun a ha k => w1 a k ((dW_864 x y hxy) a ha k)), zz_MT.hi (a := y + 2) (b := y + 2) (fun k hk => w2 (y + 2) k ((dW_865 x y hxy) k hk)), bKX]; exact q.2.2.2.1, by rw [aKF, zz_PXk (f := 1) (r := x + 28) w1 (dW_866 x y hxy), zz_PMk (f := 1) (a := y + 2) w2 (dW_867 x y hxy), bKF, q.2.2.2.2.1], by rw [zz_PMk (f := 1) (a := y + 2) w2 (dW_867 x y hxy), bKF]; exact q.2.2.2.2.2.1, by rw [aKV, zy_wv.eq (a := x + 28 + 5) (a1 := x + 28 + 5) (b := 0) (b1 := 0) (congrArg Int32.toInt (w1 (x + 28) 11 (dW_868 x y hxy))) (fun k hk => w1 (x + 28 + 5) (0 + k) ((dW_869 x y hxy) k hk)), zy_wv.eq (a := y + 2) (a1 := y + 2) (b := 133) (b1 := 133) (congrArg Int32.toInt (w2 (y + 2) 6 (dW_870 x y hxy))) (fun k hk => w2 (y + 2) (133 + k) ((dW_871 x y hxy) k hk)), bKV, q.2.2.2.2.2.2]⟩)
  have gc6 : (σ (x + 1) 6).toInt = (σ1 (y + 1) 3).toInt := hR.2.2.1.2.2.2.2.1.trans (congrArg Int32.toInt (B (y + 1) 3 (by omega) (by omega))).symm
  have eW : zz_PX 0 σ (x + 1) = zz_PM 0 σ1 (y + 1) := hqW.trans bW.symm
  have eF : zz_PX 1 σ (x + 1) = zz_PM 1 σ1 (y + 1) := hqF.trans bF.symm
  have hG1 : zy_FB (zz_PM 1 σ1 (y + 1)) := by rw [bF]; exact hqG
  have eV := hqV.trans bV.symm
  have gv9 : (σ (x + 1) 11).toInt = (σ1 (y + 1) 6).toInt := hR.2.2.1.2.2.2.2.2.2.trans (congrArg Int32.toInt (B (y + 1) 6 (by omega) (by omega))).symm
  have rV : zy_wv σ2 (x + 1 + 5) 0 (σ2 (x + 1) 11).toInt = zy_wv σ2 (y + 1) 133 (σ2 (y + 1) 6).toInt := by rw [aV, zy_wv.z p1.1, zy_wv.z p2.1]
  have hQ2 : zz_RD σ2 x y := ⟨rD, rW, rK, rB, rN, rC, rL, rT, rP, rX, rF, rG, rV⟩
  refine lv_pop hx hb dL_law_1334 rfl ?_
  refine lv_goto (tgt := 1384) hx hb dL_law_1335 (by decide) ?_
  exact kk _ _ _ hRL hQ2 hP hS
theorem gL_law_X8_count : GoodIn wsL_law (wsV RL 166 RX8 yX8_count wzX8_count) := wz_coL bm_1004 (wz_coL bm_1005 (wz_coL bm_1006 (wz_coL bm_2 (wz_inL bm_1007))))
theorem gL_law_X9_count : GoodIn wsL_law (wsV RL 169 RX9 yX9_count wzX9_count) := wz_coL bm_1008 (wz_coL bm_1009 (wz_coL bm_1010 (wz_coL bm_5 (wz_inL bm_1011))))
set_option maxHeartbeats 4000000 in
set_option maxRecDepth 100000 in
theorem lc_count {p : Program} {l : Launch} {e : Env} {s : State} {m : MethodId} {below : List Frame} {meth : Method} {c : Code} {b L x y : Nat} {xs : Nat → Int32} {E : zz_E} {Q : State → Prop} (hA : zz_LA p s m c b L xs E x y) (i : Int32) (hi : 0 ≤ i.toInt ∧ i.toInt + 6 ≤ L) (σ : zz_S) (H : Heap) (locs : List Loc) (ls : Array Slot) (hR : zz_RL σ x y) (hQ : zz_RD σ x y) (hP : zz_P E σ H) (hS : va_S (zz_A E) s.heap H locs) (hl : lv_has ls 4 [(0, .ref b), (1, .ref x), (2, .ref y), (3, .int i)])
    (kk : ∀ (σ1 : zz_S) (H1 : Heap) (locs1 : List Loc), zz_RL σ1 x y → zz_RD σ1 x y → zz_P E σ1 H1 → va_S (zz_A E) s.heap H1 locs1 → W p l e room_1 s m #[Value.ref b] below meth c H1 locs1 600000 7302250 Q (F0 m 1384 ls [])) : W p l e room_1 s m #[Value.ref b] below meth c H locs 600000 7302250 Q (F0 m 1338 ls []) := by
  obtain ⟨hx, hb, hml, hown, hts, hX, hbl, hbE, hL, gL, gM, hxy, hK⟩ := hA
  have hbA : ¬ zz_A E b := fun h => absurd (hbE b h) (Nat.not_le.mpr hbl)
  have k_1 : (1 : Int32).toInt = 1 := by decide +kernel
  refine lv_aload_n hx hb dL_law_1338 rfl (lv_at hl 1 rfl) ?_
  refine lv_aload_n hx hb dL_law_1339 rfl (lv_at hl 0 rfl) ?_
  refine lv_iload_n hx hb dL_law_1340 rfl (lv_at hl 3 rfl) ?_
  refine lv_iconst (v := 1) hx hb dL_law_1341 (by decide) ?_
  refine lv_iadd hx hb dL_law_1342 ?_
  refine lv_topi (fun n1 e1 => ?_)
  have f1 : n1.toInt = (i).toInt + (1 : Int32).toInt := zz_addT e1 (by omega) (by omega)
  refine va_sld hx hb hX hbl hbA hS (vp_in_iff.mpr ⟨by omega, by omega⟩) dL_law_1343 ?_
  refine lv_topi (fun v2 u2 => ?_)
  refine zz_callVi (As := [.int v2]) (rest := []) ⟨hx, hb, hml, hown, hts⟩ hK hP hS (c_X8_count l E σ x v2 gL hR.1) (cwV 1 hts gL_law_X8_count rfl rfl rfl (by decide +kernel) ⟨Nat.le_of_ble_eq_true rfl, Nat.le_of_ble_eq_true rfl⟩) (gL.1) rfl rfl hl.1 rfl (Nat.le_of_ble_eq_true rfl) dL_law_1344 ⟨Nat.le_refl _, Nat.le_refl _⟩ (fun r1 σ1 H locs q1 hP hS => ?_)
  try dsimp only at q1
  obtain ⟨w1, p1⟩ := q1
  have B : ∀ a k : Nat, y ≤ a → a ≤ y + 12 → σ1 a k = σ a k := fun a k h1 h2 => w1 a k ((dW_55 x y hxy) a k h1 h2)
  have hJ1 : zz_IM σ1 y := hR.2.1.far B
  refine lv_pop hx hb dL_law_1347 rfl ?_
  refine lv_aload_n hx hb dL_law_1348 rfl (lv_at hl 2 rfl) ?_
  refine lv_aload_n hx hb dL_law_1349 rfl (lv_at hl 0 rfl) ?_
  refine lv_iload_n hx hb dL_law_1350 rfl (lv_at hl 3 rfl) ?_
  refine lv_iconst (v := 1) hx hb dL_law_1351 (by decide) ?_
  refine lv_iadd hx hb dL_law_1352 ?_
  refine lv_topi (fun n4 e4 => ?_)
  have f4 : n4.toInt = (i).toInt + (1 : Int32).toInt := zz_addT e4 (by omega) (by omega)
  refine va_sld hx hb hX hbl hbA hS (vp_in_iff.mpr ⟨by omega, by omega⟩) dL_law_1353 ?_
  refine lv_topi (fun v5 u5 => ?_)
  have z5 : v5 = v2 := by rw [u5, u2, e4, e1]
  have zt5 := congrArg Int32.toInt z5
  refine zz_callVi (As := [.int v5]) (rest := []) ⟨hx, hb, hml, hown, hts⟩ hK hP hS (c_X9_count l E σ1 y v5 gM hJ1) (cwV 1 hts gL_law_X9_count rfl rfl rfl (by decide +kernel) ⟨Nat.le_of_ble_eq_true rfl, Nat.le_of_ble_eq_true rfl⟩) (gM.1) rfl rfl hl.1 rfl (Nat.le_of_ble_eq_true rfl) dL_law_1354 ⟨Nat.le_refl _, Nat.le_refl _⟩ (fun r2 σ2 H locs q2 hP hS => ?_)
  try dsimp only at q2
  obtain ⟨w2, p2⟩ := q2
  have A : ∀ a k : Nat, x ≤ a → a < x + 76 → σ2 a k = σ1 a k := fun a k h1 h2 => w2 a k ((dW_56 x y hxy) a k h1 h2)
  have i1 : zz_IX σ1 x := hR.1.soft (w1.mono (dW_57 x y hxy))
  have i2 : zz_IM σ2 y := hJ1.soft (w2.mono (dW_58 x y hxy))
  try simp only [z5] at p2
  have hRL : zz_RL σ2 x y := hR.soft i1 i2 A B (fun k => w1 (x + 1) k ((dW_64 x y hxy) k)) (fun k hk => w2 (y + 1) k ((dW_59 x y hxy) k hk)) (fun k => w1 (x + 28) k ((dW_60 x y hxy) k)) (w1 x 2 (dW_61 x y hxy)) (fun k => w2 (y + 2) k ((dW_62 x y hxy) k)) (w2 y 2 (dW_63 x y hxy))
  obtain ⟨hqD, hqW, hqK, hqB, hqN, hqC, hqL, hqT, hqP, hqX, hqF, hqG, hqV⟩ := hQ
  obtain ⟨aD, aW, aKD, aKW, aB, aN, aC, aL, aT, aP, aX, aKP, aKX⟩ := zz_aX A
  obtain ⟨bD, bW, bKD, bKW, bB, bN, bC, bL, bT, bP, bX, bKP, bKX⟩ := zz_bM hR.2.1 B
  obtain ⟨aF, aKF, aV, aKV⟩ := zy_aX2 A
  obtain ⟨bF, bKF, bV, bKV⟩ := zy_bM2 B
  have rD : zz_DX σ2 (x + 1) = zz_DM σ2 (y + 1) := by rw [aD, zz_DXk (r := x + 1) w1 (dW_65 x y hxy), zz_DMk (a := y + 1) w2 (dW_66 x y hxy), bD, hqD]
  have rW : zz_PX 0 σ2 (x + 1) = zz_PM 0 σ2 (y + 1) := by rw [aW, zz_PXk (f := 0) (r := x + 1) w1 (dW_67 x y hxy), zz_PMk (f := 0) (a := y + 1) w2 (dW_68 x y hxy), bW, hqW]
  have rB : zz_HX 0 σ2 x = zz_HM σ2 (y + 4) := by rw [aB, zz_HX.eq (f := 0) (x := x) (fun j hj => w1 _ _ ((dW_69 x y hxy) j hj)), zz_HM.eq (a := y + 4) (fun j hj => w2 _ _ ((dW_70 x y hxy) j hj)), bB, hqB]
  have rN : zz_HX 1 σ2 x = zz_HM σ2 (y + 5) := by rw [aN, zz_HX.eq (f := 1) (x := x) (fun j hj => w1 _ _ ((dW_69 x y hxy) j hj)), zz_HM.eq (a := y + 5) (fun j hj => w2 _ _ ((dW_71 x y hxy) j hj)), bN, hqN]
  have rC : zz_CX σ2 x = zz_CM σ2 (y + 6) := by rw [aC, zz_CX.eq (x := x) (fun j hj k hk => w1 _ _ ((dW_72 x y hxy) j hj k hk)), zz_CM.eq (a := y + 6) (fun k hk => w2 _ _ ((dW_73 x y hxy) k hk)), bC, hqC]
  have rL : (σ2 (x + 56) 1).toInt = (σ2 y 18).toInt := by rw [aL, congrArg Int32.toInt (w1 (x + 56) 1 (dW_74 x y hxy)), congrArg Int32.toInt (w2 y 18 (dW_63 x y hxy)), bL, hqL]
  have rT : zz_TV σ2 (x + 56 + 1) = zz_TV σ2 (y + 12) := by rw [aT, zz_TV.eq (a := x + 56 + 1) (b := x + 56 + 1) (fun k _ => w1 _ k ((dW_75 x y hxy) k)), zz_TV.eq (a := y + 12) (b := y + 12) (fun k _ => w2 _ k ((dW_76 x y hxy) k)), bT, hqT]
  have rP : zz_Tp σ2 (x + 1 + 4) (σ2 (x + 1) 9).toInt = zz_Tm σ2 (y + 1) := by rw [aP, zz_Tp.all (a := x + 1 + 4) (b := x + 1 + 4) (congrArg Int32.toInt (w1 (x + 1) 9 (dW_77 x y hxy))) (fun k => w1 _ k ((dW_78 x y hxy) k)), zz_Tm.eq (a := y + 1) (b := y + 1) (w2 (y + 1) 5 (dW_79 x y hxy)) hJ1.1.2.2.2.2.1.2 (fun k hk => w2 (y + 1) (73 + k) ((dW_80 x y hxy) k hk)), bP, hqP]
  have rX : zz_tts (zz_XT σ2 (x + 1)) (zz_MT σ2 (y + 1)) := by rw [aX, zz_XT.all (r := x + 1) (fun a ha k => w1 a k ((dW_81 x y hxy) a ha k)), zz_MT.hi (a := y + 1) (b := y + 1) (fun k hk => w2 (y + 1) k ((dW_82 x y hxy) k hk)), bX]; exact hqX
  have rF : zz_PX 1 σ2 (x + 1) = zz_PM 1 σ2 (y + 1) := by rw [aF, zz_PXk (f := 1) (r := x + 1) w1 (dW_67 x y hxy), zz_PMk (f := 1) (a := y + 1) w2 (dW_68 x y hxy), bF, hqF]
  have rV : zy_wv σ2 (x + 1 + 5) 0 (σ2 (x + 1) 11).toInt = zy_wv σ2 (y + 1) 133 (σ2 (y + 1) 6).toInt := by rw [aV, zy_wv.eq (a := x + 1 + 5) (a1 := x + 1 + 5) (b := 0) (b1 := 0) (congrArg Int32.toInt (w1 (x + 1) 11 (dW_77 x y hxy))) (fun k hk => w1 (x + 1 + 5) (0 + k) ((dW_83 x y hxy) k hk)), zy_wv.eq (a := y + 1) (a1 := y + 1) (b := 133) (b1 := 133) (congrArg Int32.toInt (w2 (y + 1) 6 (dW_79 x y hxy))) (fun k hk => w2 (y + 1) (133 + k) ((dW_84 x y hxy) k hk)), bV, hqV]
  have rG : zy_FB (zz_PM 1 σ2 (y + 1)) := by rw [zz_PMk (f := 1) (a := y + 1) w2 (dW_68 x y hxy), bF]; exact hqG
  have rK : (σ2 x 2).toInt = 0 ∨ (zz_DX σ2 (x + 28) = zz_DM σ2 (y + 2) ∧ zz_PX 0 σ2 (x + 28) = zz_PM 0 σ2 (y + 2) ∧ zz_Tp σ2 (x + 28 + 4) (σ2 (x + 28) 9).toInt = zz_Tm σ2 (y + 2) ∧ zz_tts (zz_XT σ2 (x + 28)) (zz_MT σ2 (y + 2)) ∧ zz_PX 1 σ2 (x + 28) = zz_PM 1 σ2 (y + 2) ∧ zy_FB (zz_PM 1 σ2 (y + 2)) ∧ zy_wv σ2 (x + 28 + 5) 0 (σ2 (x + 28) 11).toInt = zy_wv σ2 (y + 2) 133 (σ2 (y + 2) 6).toInt) := hqK.elim (fun q => Or.inl ((congrArg Int32.toInt ((A x 2 (by omega) (by omega)).trans (w1 x 2 (dW_61 x y hxy)))).trans q)) (fun q => Or.inr ⟨by rw [aKD, zz_DXk (r := x + 28) w1 (dW_85 x y hxy), zz_DMk (a := y + 2) w2 (dW_86 x y hxy), bKD, q.1], by rw [aKW, zz_PXk (f := 0) (r := x + 28) w1 (dW_87 x y hxy), zz_PMk (f := 0) (a := y + 2) w2 (dW_88 x y hxy), bKW, q.2.1], by rw [aKP, zz_Tp.all (a := x + 28 + 4) (b := x + 28 + 4) (congrArg Int32.toInt (w1 (x + 28) 9 (dW_89 x y hxy))) (fun k => w1 _ k ((dW_90 x y hxy) k)), zz_Tm.eq (a := y + 2) (b := y + 2) (w2 (y + 2) 5 (dW_91 x y hxy)) hJ1.2.1.2.2.2.2.1.2 (fun k hk => w2 (y + 2) (73 + k) ((dW_92 x y hxy) k hk)), bKP, q.2.2.1], by rw [aKX, zz_XT.all (r := x + 28) (fun a ha k => w1 a k ((dW_93 x y hxy) a ha k)), zz_MT.hi (a := y + 2) (b := y + 2) (fun k hk => w2 (y + 2) k ((dW_94 x y hxy) k hk)), bKX]; exact q.2.2.2.1, by rw [aKF, zz_PXk (f := 1) (r := x + 28) w1 (dW_87 x y hxy), zz_PMk (f := 1) (a := y + 2) w2 (dW_88 x y hxy), bKF, q.2.2.2.2.1], by rw [zz_PMk (f := 1) (a := y + 2) w2 (dW_88 x y hxy), bKF]; exact q.2.2.2.2.2.1, by rw [aKV, zy_wv.eq (a := x + 28 + 5) (a1 := x + 28 + 5) (b := 0) (b1 := 0) (congrArg Int32.toInt (w1 (x + 28) 11 (dW_89 x y hxy))) (fun k hk => w1 (x + 28 + 5) (0 + k) ((dW_95 x y hxy) k hk)), zy_wv.eq (a := y + 2) (a1 := y + 2) (b := 133) (b1 := 133) (congrArg Int32.toInt (w2 (y + 2) 6 (dW_91 x y hxy))) (fun k hk => w2 (y + 2) (133 + k) ((dW_96 x y hxy) k hk)), bKV, q.2.2.2.2.2.2]⟩)
  have hQ2 : zz_RD σ2 x y := ⟨rD, rW, rK, rB, rN, rC, rL, rT, rP, rX, rF, rG, rV⟩
  refine lv_pop hx hb dL_law_1357 rfl ?_
  refine lv_goto (tgt := 1384) hx hb dL_law_1358 (by decide) ?_
  exact kk _ _ _ hRL hQ2 hP hS
theorem gL_law_X8_told : GoodIn wsL_law (wsV RL 170 RX8 yX8_told wzX8_told) := wz_coL bm_1012 (wz_coL bm_1013 (wz_coL bm_1014 (wz_coL bm_2 (wz_inL bm_1015))))
theorem gL_law_X9_told : GoodIn wsL_law (wsV RL 173 RX9 yX9_told wzX9_told) := wz_coL bm_1016 (wz_coL bm_1017 (wz_coL bm_1018 (wz_coL bm_5 (wz_inL bm_1019))))
set_option maxHeartbeats 4000000 in
set_option maxRecDepth 100000 in
theorem lc_told {p : Program} {l : Launch} {e : Env} {s : State} {m : MethodId} {below : List Frame} {meth : Method} {c : Code} {b L x y : Nat} {xs : Nat → Int32} {E : zz_E} {Q : State → Prop} (hA : zz_LA p s m c b L xs E x y) (i : Int32) (hi : 0 ≤ i.toInt ∧ i.toInt + 6 ≤ L) (σ : zz_S) (H : Heap) (locs : List Loc) (ls : Array Slot) (hR : zz_RL σ x y) (hQ : zz_RD σ x y) (hP : zz_P E σ H) (hS : va_S (zz_A E) s.heap H locs) (hl : lv_has ls 4 [(0, .ref b), (1, .ref x), (2, .ref y), (3, .int i)])
    (kk : ∀ (σ1 : zz_S) (H1 : Heap) (locs1 : List Loc), zz_RL σ1 x y → zz_RD σ1 x y → zz_P E σ1 H1 → va_S (zz_A E) s.heap H1 locs1 → W p l e room_1 s m #[Value.ref b] below meth c H1 locs1 600000 7302250 Q (F0 m 1384 ls [])) : W p l e room_1 s m #[Value.ref b] below meth c H locs 600000 7302250 Q (F0 m 1361 ls []) := by
  obtain ⟨hx, hb, hml, hown, hts, hX, hbl, hbE, hL, gL, gM, hxy, hK⟩ := hA
  have hbA : ¬ zz_A E b := fun h => absurd (hbE b h) (Nat.not_le.mpr hbl)
  have k_1 : (1 : Int32).toInt = 1 := by decide +kernel
  refine lv_aload_n hx hb dL_law_1361 rfl (lv_at hl 1 rfl) ?_
  refine lv_aload_n hx hb dL_law_1362 rfl (lv_at hl 0 rfl) ?_
  refine lv_iload_n hx hb dL_law_1363 rfl (lv_at hl 3 rfl) ?_
  refine lv_iconst (v := 1) hx hb dL_law_1364 (by decide) ?_
  refine lv_iadd hx hb dL_law_1365 ?_
  refine lv_topi (fun n1 e1 => ?_)
  have f1 : n1.toInt = (i).toInt + (1 : Int32).toInt := zz_addT e1 (by omega) (by omega)
  refine va_sld hx hb hX hbl hbA hS (vp_in_iff.mpr ⟨by omega, by omega⟩) dL_law_1366 ?_
  refine lv_topi (fun v2 u2 => ?_)
  refine zz_callVi (As := [.int v2]) (rest := []) ⟨hx, hb, hml, hown, hts⟩ hK hP hS (c_X8_told l E σ x v2 gL hR.1) (cwV 1 hts gL_law_X8_told rfl rfl rfl (by decide +kernel) ⟨Nat.le_of_ble_eq_true rfl, Nat.le_of_ble_eq_true rfl⟩) (gL.1) rfl rfl hl.1 rfl (Nat.le_of_ble_eq_true rfl) dL_law_1367 ⟨Nat.le_refl _, Nat.le_refl _⟩ (fun r1 σ1 H locs q1 hP hS => ?_)
  try dsimp only at q1
  obtain ⟨w1, p1⟩ := q1
  have B : ∀ a k : Nat, y ≤ a → a ≤ y + 12 → σ1 a k = σ a k := fun a k h1 h2 => w1 a k ((dW_55 x y hxy) a k h1 h2)
  have hJ1 : zz_IM σ1 y := hR.2.1.far B
  refine lv_pop hx hb dL_law_1370 rfl ?_
  refine lv_aload_n hx hb dL_law_1371 rfl (lv_at hl 2 rfl) ?_
  refine lv_aload_n hx hb dL_law_1372 rfl (lv_at hl 0 rfl) ?_
  refine lv_iload_n hx hb dL_law_1373 rfl (lv_at hl 3 rfl) ?_
  refine lv_iconst (v := 1) hx hb dL_law_1374 (by decide) ?_
  refine lv_iadd hx hb dL_law_1375 ?_
  refine lv_topi (fun n4 e4 => ?_)
  have f4 : n4.toInt = (i).toInt + (1 : Int32).toInt := zz_addT e4 (by omega) (by omega)
  refine va_sld hx hb hX hbl hbA hS (vp_in_iff.mpr ⟨by omega, by omega⟩) dL_law_1376 ?_
  refine lv_topi (fun v5 u5 => ?_)
  have z5 : v5 = v2 := by rw [u5, u2, e4, e1]
  have zt5 := congrArg Int32.toInt z5
  refine zz_callVi (As := [.int v5]) (rest := []) ⟨hx, hb, hml, hown, hts⟩ hK hP hS (c_X9_told l E σ1 y v5 gM hJ1) (cwV 1 hts gL_law_X9_told rfl rfl rfl (by decide +kernel) ⟨Nat.le_of_ble_eq_true rfl, Nat.le_of_ble_eq_true rfl⟩) (gM.1) rfl rfl hl.1 rfl (Nat.le_of_ble_eq_true rfl) dL_law_1377 ⟨Nat.le_refl _, Nat.le_refl _⟩ (fun r2 σ2 H locs q2 hP hS => ?_)
  try dsimp only at q2
  obtain ⟨w2, p2⟩ := q2
  have A : ∀ a k : Nat, x ≤ a → a < x + 76 → σ2 a k = σ1 a k := fun a k h1 h2 => w2 a k ((dW_56 x y hxy) a k h1 h2)
  have i1 : zz_IX σ1 x := hR.1.soft (w1.mono (dW_57 x y hxy))
  have i2 : zz_IM σ2 y := hJ1.soft (w2.mono (dW_58 x y hxy))
  try simp only [z5] at p2
  have hRL : zz_RL σ2 x y := hR.soft i1 i2 A B (fun k => w1 (x + 1) k ((dW_64 x y hxy) k)) (fun k hk => w2 (y + 1) k ((dW_59 x y hxy) k hk)) (fun k => w1 (x + 28) k ((dW_60 x y hxy) k)) (w1 x 2 (dW_61 x y hxy)) (fun k => w2 (y + 2) k ((dW_62 x y hxy) k)) (w2 y 2 (dW_63 x y hxy))
  obtain ⟨hqD, hqW, hqK, hqB, hqN, hqC, hqL, hqT, hqP, hqX, hqF, hqG, hqV⟩ := hQ
  obtain ⟨aD, aW, aKD, aKW, aB, aN, aC, aL, aT, aP, aX, aKP, aKX⟩ := zz_aX A
  obtain ⟨bD, bW, bKD, bKW, bB, bN, bC, bL, bT, bP, bX, bKP, bKX⟩ := zz_bM hR.2.1 B
  obtain ⟨aF, aKF, aV, aKV⟩ := zy_aX2 A
  obtain ⟨bF, bKF, bV, bKV⟩ := zy_bM2 B
  have rD : zz_DX σ2 (x + 1) = zz_DM σ2 (y + 1) := by rw [aD, zz_DXk (r := x + 1) w1 (dW_65 x y hxy), zz_DMk (a := y + 1) w2 (dW_66 x y hxy), bD, hqD]
  have rW : zz_PX 0 σ2 (x + 1) = zz_PM 0 σ2 (y + 1) := by rw [aW, zz_PXk (f := 0) (r := x + 1) w1 (dW_67 x y hxy), zz_PMk (f := 0) (a := y + 1) w2 (dW_68 x y hxy), bW, hqW]
  have rB : zz_HX 0 σ2 x = zz_HM σ2 (y + 4) := by rw [aB, zz_HX.eq (f := 0) (x := x) (fun j hj => w1 _ _ ((dW_69 x y hxy) j hj)), zz_HM.eq (a := y + 4) (fun j hj => w2 _ _ ((dW_70 x y hxy) j hj)), bB, hqB]
  have rN : zz_HX 1 σ2 x = zz_HM σ2 (y + 5) := by rw [aN, zz_HX.eq (f := 1) (x := x) (fun j hj => w1 _ _ ((dW_69 x y hxy) j hj)), zz_HM.eq (a := y + 5) (fun j hj => w2 _ _ ((dW_71 x y hxy) j hj)), bN, hqN]
  have rC : zz_CX σ2 x = zz_CM σ2 (y + 6) := by rw [aC, zz_CX.eq (x := x) (fun j hj k hk => w1 _ _ ((dW_72 x y hxy) j hj k hk)), zz_CM.eq (a := y + 6) (fun k hk => w2 _ _ ((dW_73 x y hxy) k hk)), bC, hqC]
  have rL : (σ2 (x + 56) 1).toInt = (σ2 y 18).toInt := by rw [aL, congrArg Int32.toInt (w1 (x + 56) 1 (dW_74 x y hxy)), congrArg Int32.toInt (w2 y 18 (dW_63 x y hxy)), bL, hqL]
  have rT : zz_TV σ2 (x + 56 + 1) = zz_TV σ2 (y + 12) := by rw [aT, zz_TV.eq (a := x + 56 + 1) (b := x + 56 + 1) (fun k _ => w1 _ k ((dW_75 x y hxy) k)), zz_TV.eq (a := y + 12) (b := y + 12) (fun k _ => w2 _ k ((dW_76 x y hxy) k)), bT, hqT]
  have rP : zz_Tp σ2 (x + 1 + 4) (σ2 (x + 1) 9).toInt = zz_Tm σ2 (y + 1) := by rw [aP, zz_Tp.all (a := x + 1 + 4) (b := x + 1 + 4) (congrArg Int32.toInt (w1 (x + 1) 9 (dW_77 x y hxy))) (fun k => w1 _ k ((dW_78 x y hxy) k)), zz_Tm.eq (a := y + 1) (b := y + 1) (w2 (y + 1) 5 (dW_79 x y hxy)) hJ1.1.2.2.2.2.1.2 (fun k hk => w2 (y + 1) (73 + k) ((dW_80 x y hxy) k hk)), bP, hqP]
  have rX : zz_tts (zz_XT σ2 (x + 1)) (zz_MT σ2 (y + 1)) := by rw [aX, zz_XT.all (r := x + 1) (fun a ha k => w1 a k ((dW_81 x y hxy) a ha k)), zz_MT.hi (a := y + 1) (b := y + 1) (fun k hk => w2 (y + 1) k ((dW_82 x y hxy) k hk)), bX]; exact hqX
  have rF : zz_PX 1 σ2 (x + 1) = zz_PM 1 σ2 (y + 1) := by rw [aF, zz_PXk (f := 1) (r := x + 1) w1 (dW_67 x y hxy), zz_PMk (f := 1) (a := y + 1) w2 (dW_68 x y hxy), bF, hqF]
  have rV : zy_wv σ2 (x + 1 + 5) 0 (σ2 (x + 1) 11).toInt = zy_wv σ2 (y + 1) 133 (σ2 (y + 1) 6).toInt := by rw [aV, zy_wv.eq (a := x + 1 + 5) (a1 := x + 1 + 5) (b := 0) (b1 := 0) (congrArg Int32.toInt (w1 (x + 1) 11 (dW_77 x y hxy))) (fun k hk => w1 (x + 1 + 5) (0 + k) ((dW_83 x y hxy) k hk)), zy_wv.eq (a := y + 1) (a1 := y + 1) (b := 133) (b1 := 133) (congrArg Int32.toInt (w2 (y + 1) 6 (dW_79 x y hxy))) (fun k hk => w2 (y + 1) (133 + k) ((dW_84 x y hxy) k hk)), bV, hqV]
  have rG : zy_FB (zz_PM 1 σ2 (y + 1)) := by rw [zz_PMk (f := 1) (a := y + 1) w2 (dW_68 x y hxy), bF]; exact hqG
  have rK : (σ2 x 2).toInt = 0 ∨ (zz_DX σ2 (x + 28) = zz_DM σ2 (y + 2) ∧ zz_PX 0 σ2 (x + 28) = zz_PM 0 σ2 (y + 2) ∧ zz_Tp σ2 (x + 28 + 4) (σ2 (x + 28) 9).toInt = zz_Tm σ2 (y + 2) ∧ zz_tts (zz_XT σ2 (x + 28)) (zz_MT σ2 (y + 2)) ∧ zz_PX 1 σ2 (x + 28) = zz_PM 1 σ2 (y + 2) ∧ zy_FB (zz_PM 1 σ2 (y + 2)) ∧ zy_wv σ2 (x + 28 + 5) 0 (σ2 (x + 28) 11).toInt = zy_wv σ2 (y + 2) 133 (σ2 (y + 2) 6).toInt) := hqK.elim (fun q => Or.inl ((congrArg Int32.toInt ((A x 2 (by omega) (by omega)).trans (w1 x 2 (dW_61 x y hxy)))).trans q)) (fun q => Or.inr ⟨by rw [aKD, zz_DXk (r := x + 28) w1 (dW_85 x y hxy), zz_DMk (a := y + 2) w2 (dW_86 x y hxy), bKD, q.1], by rw [aKW, zz_PXk (f := 0) (r := x + 28) w1 (dW_87 x y hxy), zz_PMk (f := 0) (a := y + 2) w2 (dW_88 x y hxy), bKW, q.2.1], by rw [aKP, zz_Tp.all (a := x + 28 + 4) (b := x + 28 + 4) (congrArg Int32.toInt (w1 (x + 28) 9 (dW_89 x y hxy))) (fun k => w1 _ k ((dW_90 x y hxy) k)), zz_Tm.eq (a := y + 2) (b := y + 2) (w2 (y + 2) 5 (dW_91 x y hxy)) hJ1.2.1.2.2.2.2.1.2 (fun k hk => w2 (y + 2) (73 + k) ((dW_92 x y hxy) k hk)), bKP, q.2.2.1], by rw [aKX, zz_XT.all (r := x + 28) (fun a ha k => w1 a k ((dW_93 x y hxy) a ha k)), zz_MT.hi (a := y + 2) (b := y + 2) (fun k hk => w2 (y + 2) k ((dW_94 x y hxy) k hk)), bKX]; exact q.2.2.2.1, by rw [aKF, zz_PXk (f := 1) (r := x + 28) w1 (dW_87 x y hxy), zz_PMk (f := 1) (a := y + 2) w2 (dW_88 x y hxy), bKF, q.2.2.2.2.1], by rw [zz_PMk (f := 1) (a := y + 2) w2 (dW_88 x y hxy), bKF]; exact q.2.2.2.2.2.1, by rw [aKV, zy_wv.eq (a := x + 28 + 5) (a1 := x + 28 + 5) (b := 0) (b1 := 0) (congrArg Int32.toInt (w1 (x + 28) 11 (dW_89 x y hxy))) (fun k hk => w1 (x + 28 + 5) (0 + k) ((dW_95 x y hxy) k hk)), zy_wv.eq (a := y + 2) (a1 := y + 2) (b := 133) (b1 := 133) (congrArg Int32.toInt (w2 (y + 2) 6 (dW_91 x y hxy))) (fun k hk => w2 (y + 2) (133 + k) ((dW_96 x y hxy) k hk)), bKV, q.2.2.2.2.2.2]⟩)
  have hQ2 : zz_RD σ2 x y := ⟨rD, rW, rK, rB, rN, rC, rL, rT, rP, rX, rF, rG, rV⟩
  refine lv_pop hx hb dL_law_1380 rfl ?_
  refine lv_goto (tgt := 1384) hx hb dL_law_1381 (by decide) ?_
  exact kk _ _ _ hRL hQ2 hP hS
