theorem gL_law_X8_wonts : GoodIn wsL_law (wsV RL 141 RX8 yX8_wonts wzX8_wonts) := wz_coL bm_927 (wz_coL bm_928 (wz_coL bm_929 (wz_coL bm_2 (wz_inL bm_930))))
theorem gL_law_X9_wonts : GoodIn wsL_law (wsV RL 144 RX9 yX9_wonts wzX9_wonts) := wz_coL bm_931 (wz_coL bm_932 (wz_coL bm_933 (wz_coL bm_5 (wz_inL bm_934))))
set_option maxHeartbeats 4000000 in
set_option maxRecDepth 100000 in
theorem lc_wonts {p : Program} {l : Launch} {e : Env} {s : State} {m : MethodId} {below : List Frame} {meth : Method} {c : Code} {b L x y : Nat} {xs : Nat → Int32} {E : zz_E} {Q : State → Prop} (hA : zz_LA p s m c b L xs E x y) (i : Int32) (hi : 0 ≤ i.toInt ∧ i.toInt + 6 ≤ L) (σ : zz_S) (H : Heap) (locs : List Loc) (ls : Array Slot) (hR : zz_RL σ x y) (hP : zz_P E σ H) (hS : va_S (zz_A E) s.heap H locs) (hl : lv_has ls 4 [(0, .ref b), (1, .ref x), (2, .ref y), (3, .int i)])
    (kk : ∀ (σ1 : zz_S) (H1 : Heap) (locs1 : List Loc), zz_RL σ1 x y → zz_P E σ1 H1 → va_S (zz_A E) s.heap H1 locs1 → W p l e room_1 s m #[Value.ref b] below meth c H1 locs1 600000 7302250 Q (F0 m 1384 ls [])) : W p l e room_1 s m #[Value.ref b] below meth c H locs 600000 7302250 Q (F0 m 1230 ls []) := by
  obtain ⟨hx, hb, hml, hown, hts, hX, hbl, hbE, hL, gL, gM, hxy, hK⟩ := hA
  have hbA : ¬ zz_A E b := fun h => absurd (hbE b h) (Nat.not_le.mpr hbl)
  have k_1 : (1 : Int32).toInt = 1 := by decide +kernel
  refine lv_aload_n hx hb dL_law_1230 rfl (lv_at hl 1 rfl) ?_
  refine lv_aload_n hx hb dL_law_1231 rfl (lv_at hl 0 rfl) ?_
  refine lv_iload_n hx hb dL_law_1232 rfl (lv_at hl 3 rfl) ?_
  refine lv_iconst (v := 1) hx hb dL_law_1233 (by decide) ?_
  refine lv_iadd hx hb dL_law_1234 ?_
  refine lv_topi (fun n1 e1 => ?_)
  have f1 : n1.toInt = (i).toInt + (1 : Int32).toInt := zz_addT e1 (by omega) (by omega)
  refine va_sld hx hb hX hbl hbA hS (vp_in_iff.mpr ⟨by omega, by omega⟩) dL_law_1235 ?_
  refine lv_topi (fun v2 u2 => ?_)
  refine zz_callVi (As := [.int v2]) (rest := []) ⟨hx, hb, hml, hown, hts⟩ hK hP hS (c_X8_wonts l E σ x v2 gL hR.1) (cwV 1 hts gL_law_X8_wonts rfl rfl rfl (by decide +kernel) ⟨Nat.le_of_ble_eq_true rfl, Nat.le_of_ble_eq_true rfl⟩) (gL.1) rfl rfl hl.1 rfl (Nat.le_of_ble_eq_true rfl) dL_law_1236 ⟨Nat.le_refl _, Nat.le_refl _⟩ (fun r1 σ1 H locs q1 hP hS => ?_)
  try dsimp only at q1
  obtain ⟨w1, p1⟩ := q1
  have B : ∀ a k : Nat, y ≤ a → a ≤ y + 12 → σ1 a k = σ a k := fun a k h1 h2 => w1 a k ((dW_19 x y hxy) a k h1 h2)
  have hJ1 : zz_IM σ1 y := hR.2.1.far B
  refine lv_pop hx hb dL_law_1239 rfl ?_
  refine lv_aload_n hx hb dL_law_1240 rfl (lv_at hl 2 rfl) ?_
  refine lv_aload_n hx hb dL_law_1241 rfl (lv_at hl 0 rfl) ?_
  refine lv_iload_n hx hb dL_law_1242 rfl (lv_at hl 3 rfl) ?_
  refine lv_iconst (v := 1) hx hb dL_law_1243 (by decide) ?_
  refine lv_iadd hx hb dL_law_1244 ?_
  refine lv_topi (fun n4 e4 => ?_)
  have f4 : n4.toInt = (i).toInt + (1 : Int32).toInt := zz_addT e4 (by omega) (by omega)
  refine va_sld hx hb hX hbl hbA hS (vp_in_iff.mpr ⟨by omega, by omega⟩) dL_law_1245 ?_
  refine lv_topi (fun v5 u5 => ?_)
  have z5 : v5 = v2 := by rw [u5, u2, e4, e1]
  have zt5 := congrArg Int32.toInt z5
  refine zz_callVi (As := [.int v5]) (rest := []) ⟨hx, hb, hml, hown, hts⟩ hK hP hS (c_X9_wonts l E σ1 y v5 gM hJ1) (cwV 1 hts gL_law_X9_wonts rfl rfl rfl (by decide +kernel) ⟨Nat.le_of_ble_eq_true rfl, Nat.le_of_ble_eq_true rfl⟩) (gM.1) rfl rfl hl.1 rfl (Nat.le_of_ble_eq_true rfl) dL_law_1246 ⟨Nat.le_refl _, Nat.le_refl _⟩ (fun r2 σ2 H locs q2 hP hS => ?_)
  try dsimp only at q2
  obtain ⟨w2, p2⟩ := q2
  have A : ∀ a k : Nat, x ≤ a → a < x + 76 → σ2 a k = σ1 a k := fun a k h1 h2 => w2 a k ((dW_51 x y hxy) a k h1 h2)
  have i2 := p2
  have i1 : zz_IX σ1 x := hR.1.soft (w1.mono (dW_21 x y hxy))
  have hRL : zz_RL σ2 x y := hR.soft i1 i2 A B (fun k => w1 (x + 1) k ((dW_28 x y hxy) k)) (fun k hk => w2 (y + 1) k ((dW_52 x y hxy) k hk)) (fun k => w1 (x + 28) k ((dW_24 x y hxy) k)) (w1 x 2 (dW_25 x y hxy)) (fun k => w2 (y + 2) k ((dW_53 x y hxy) k)) (w2 y 2 (dW_54 x y hxy))
  refine lv_pop hx hb dL_law_1249 rfl ?_
  refine lv_goto (tgt := 1384) hx hb dL_law_1250 (by decide) ?_
  exact kk _ _ _ hRL hP hS
theorem gL_law_X8_judge : GoodIn wsL_law (wsV RL 145 RX8 yX8_judge wzX8_judge) := wz_coL bm_935 (wz_coL bm_936 (wz_coL bm_937 (wz_coL bm_2 (wz_inL bm_938))))
theorem gL_law_X9_judge : GoodIn wsL_law (wsV RL 148 RX9 yX9_judge wzX9_judge) := wz_coL bm_939 (wz_coL bm_940 (wz_coL bm_941 (wz_coL bm_5 (wz_inL bm_942))))
set_option maxHeartbeats 4000000 in
set_option maxRecDepth 100000 in
theorem lc_judge {p : Program} {l : Launch} {e : Env} {s : State} {m : MethodId} {below : List Frame} {meth : Method} {c : Code} {b L x y : Nat} {xs : Nat → Int32} {E : zz_E} {Q : State → Prop} (hA : zz_LA p s m c b L xs E x y) (i : Int32) (hi : 0 ≤ i.toInt ∧ i.toInt + 6 ≤ L) (σ : zz_S) (H : Heap) (locs : List Loc) (ls : Array Slot) (hR : zz_RL σ x y) (hP : zz_P E σ H) (hS : va_S (zz_A E) s.heap H locs) (hl : lv_has ls 4 [(0, .ref b), (1, .ref x), (2, .ref y), (3, .int i)])
    (kk : ∀ (σ1 : zz_S) (H1 : Heap) (locs1 : List Loc), zz_RL σ1 x y → zz_P E σ1 H1 → va_S (zz_A E) s.heap H1 locs1 → W p l e room_1 s m #[Value.ref b] below meth c H1 locs1 600000 7302250 Q (F0 m 1384 ls [])) : W p l e room_1 s m #[Value.ref b] below meth c H locs 600000 7302250 Q (F0 m 1253 ls []) := by
  obtain ⟨hx, hb, hml, hown, hts, hX, hbl, hbE, hL, gL, gM, hxy, hK⟩ := hA
  have hbA : ¬ zz_A E b := fun h => absurd (hbE b h) (Nat.not_le.mpr hbl)
  have k_1 : (1 : Int32).toInt = 1 := by decide +kernel
  refine lv_aload_n hx hb dL_law_1253 rfl (lv_at hl 1 rfl) ?_
  refine lv_aload_n hx hb dL_law_1254 rfl (lv_at hl 0 rfl) ?_
  refine lv_iload_n hx hb dL_law_1255 rfl (lv_at hl 3 rfl) ?_
  refine lv_iconst (v := 1) hx hb dL_law_1256 (by decide) ?_
  refine lv_iadd hx hb dL_law_1257 ?_
  refine lv_topi (fun n1 e1 => ?_)
  have f1 : n1.toInt = (i).toInt + (1 : Int32).toInt := zz_addT e1 (by omega) (by omega)
  refine va_sld hx hb hX hbl hbA hS (vp_in_iff.mpr ⟨by omega, by omega⟩) dL_law_1258 ?_
  refine lv_topi (fun v2 u2 => ?_)
  refine zz_callVi (As := [.int v2]) (rest := []) ⟨hx, hb, hml, hown, hts⟩ hK hP hS (c_X8_judge l E σ x v2 gL hR.1) (cwV 1 hts gL_law_X8_judge rfl rfl rfl (by decide +kernel) ⟨Nat.le_of_ble_eq_true rfl, Nat.le_of_ble_eq_true rfl⟩) (gL.1) rfl rfl hl.1 rfl (Nat.le_of_ble_eq_true rfl) dL_law_1259 ⟨Nat.le_refl _, Nat.le_refl _⟩ (fun r1 σ1 H locs q1 hP hS => ?_)
  try dsimp only at q1
  obtain ⟨w1, p1⟩ := q1
  have B : ∀ a k : Nat, y ≤ a → a ≤ y + 12 → σ1 a k = σ a k := fun a k h1 h2 => w1 a k ((dW_19 x y hxy) a k h1 h2)
  have hJ1 : zz_IM σ1 y := hR.2.1.far B
  refine lv_pop hx hb dL_law_1262 rfl ?_
  refine lv_aload_n hx hb dL_law_1263 rfl (lv_at hl 2 rfl) ?_
  refine lv_aload_n hx hb dL_law_1264 rfl (lv_at hl 0 rfl) ?_
  refine lv_iload_n hx hb dL_law_1265 rfl (lv_at hl 3 rfl) ?_
  refine lv_iconst (v := 1) hx hb dL_law_1266 (by decide) ?_
  refine lv_iadd hx hb dL_law_1267 ?_
  refine lv_topi (fun n4 e4 => ?_)
  have f4 : n4.toInt = (i).toInt + (1 : Int32).toInt := zz_addT e4 (by omega) (by omega)
  refine va_sld hx hb hX hbl hbA hS (vp_in_iff.mpr ⟨by omega, by omega⟩) dL_law_1268 ?_
  refine lv_topi (fun v5 u5 => ?_)
  have z5 : v5 = v2 := by rw [u5, u2, e4, e1]
  have zt5 := congrArg Int32.toInt z5
  refine zz_callVi (As := [.int v5]) (rest := []) ⟨hx, hb, hml, hown, hts⟩ hK hP hS (c_X9_judge l E σ1 y v5 gM hJ1) (cwV 1 hts gL_law_X9_judge rfl rfl rfl (by decide +kernel) ⟨Nat.le_of_ble_eq_true rfl, Nat.le_of_ble_eq_true rfl⟩) (gM.1) rfl rfl hl.1 rfl (Nat.le_of_ble_eq_true rfl) dL_law_1269 ⟨Nat.le_refl _, Nat.le_refl _⟩ (fun r2 σ2 H locs q2 hP hS => ?_)
  try dsimp only at q2
  obtain ⟨w2, p2⟩ := q2
  have A : ∀ a k : Nat, x ≤ a → a < x + 76 → σ2 a k = σ1 a k := fun a k h1 h2 => w2 a k ((dW_20 x y hxy) a k h1 h2)
  have i1 : zz_IX σ1 x := hR.1.soft (w1.mono (dW_21 x y hxy))
  have i2 : zz_IM σ2 y := hJ1.soft (w2.mono (dW_22 x y hxy))
  have hRL : zz_RL σ2 x y := hR.soft i1 i2 A B (fun k => w1 (x + 1) k ((dW_28 x y hxy) k)) (fun k hk => w2 (y + 1) k ((dW_23 x y hxy) k hk)) (fun k => w1 (x + 28) k ((dW_24 x y hxy) k)) (w1 x 2 (dW_25 x y hxy)) (fun k => w2 (y + 2) k ((dW_26 x y hxy) k)) (w2 y 2 (dW_27 x y hxy))
  refine lv_pop hx hb dL_law_1272 rfl ?_
  refine lv_goto (tgt := 1384) hx hb dL_law_1273 (by decide) ?_
  exact kk _ _ _ hRL hP hS
theorem gL_law_X8_image : GoodIn wsL_law (wsV RL 149 RX8 yX8_image wzX8_image) := wz_coL bm_943 (wz_coL bm_944 (wz_coL bm_945 (wz_coL bm_2 (wz_inL bm_946))))
theorem gL_law_X9_image : GoodIn wsL_law (wsV RL 153 RX9 yX9_image wzX9_image) := wz_coL bm_970 (wz_coL bm_971 (wz_coL bm_972 (wz_coL bm_5 (wz_inL bm_973))))
theorem dW_181 (x y : Nat) (hxy : x + 76 ≤ y) : ∀ a k : Nat, y ≤ a → a ≤ y + 12 → ¬ (((x) ≤ (a) ∧ (a) < (x) + 76 ∧ (a) ≠ (x) ∧ (a) ≠ (x) + 1 ∧ (a) ≠ (x) + 5 ∧ (a) ≠ (x) + 22 ∧ (a) ≠ (x) + 25 ∧ (a) ≠ (x) + 28 ∧ (a) ≠ (x) + 32 ∧ (a) ≠ (x) + 49 ∧ (a) ≠ (x) + 52 ∧ (a) ≠ (x) + 56 ∧ (a) ≠ (x) + 68 ∧ (a) ≠ (x) + 70 ∧ (a) ≠ (x) + 72 ∧ (a) ≠ (x) + 74) ∨ (a) = (x) ∨ ((x) + 28 ≤ (a) ∧ (a) < (x) + 55)) := by intros; omega
theorem dW_182 (x y : Nat) (hxy : x + 76 ≤ y) : ∀ a k : Nat, x ≤ a → a < x + 76 → ¬ (((a) = (y) + 3 ∨ ((y) + 6 ≤ (a) ∧ (a) ≤ (y) + 12)) ∨ ((a) = (y) ∧ (k) = 2) ∨ (a) = (y) + 2) := by intros; omega
set_option maxHeartbeats 4000000 in
set_option maxRecDepth 100000 in
theorem lc_image {p : Program} {l : Launch} {e : Env} {s : State} {m : MethodId} {below : List Frame} {meth : Method} {c : Code} {b L x y : Nat} {xs : Nat → Int32} {E : zz_E} {Q : State → Prop} (hA : zz_LA p s m c b L xs E x y) (i : Int32) (hi : 0 ≤ i.toInt ∧ i.toInt + 6 ≤ L) (σ : zz_S) (H : Heap) (locs : List Loc) (ls : Array Slot) (hR : zz_RL σ x y) (hP : zz_P E σ H) (hS : va_S (zz_A E) s.heap H locs) (hl : lv_has ls 4 [(0, .ref b), (1, .ref x), (2, .ref y), (3, .int i)])
    (kk : ∀ (σ1 : zz_S) (H1 : Heap) (locs1 : List Loc), zz_RL σ1 x y → zz_P E σ1 H1 → va_S (zz_A E) s.heap H1 locs1 → W p l e room_1 s m #[Value.ref b] below meth c H1 locs1 600000 7302250 Q (F0 m 1384 ls [])) : W p l e room_1 s m #[Value.ref b] below meth c H locs 600000 7302250 Q (F0 m 1276 ls []) := by
  obtain ⟨hx, hb, hml, hown, hts, hX, hbl, hbE, hL, gL, gM, hxy, hK⟩ := hA
  have hbA : ¬ zz_A E b := fun h => absurd (hbE b h) (Nat.not_le.mpr hbl)
  refine lv_aload_n hx hb dL_law_1276 rfl (lv_at hl 1 rfl) ?_
  refine zz_callVi (As := []) (rest := []) ⟨hx, hb, hml, hown, hts⟩ hK hP hS (c_X8_image l E σ x gL hR.1) (cwV 0 hts gL_law_X8_image rfl rfl rfl (by decide +kernel) ⟨Nat.le_of_ble_eq_true rfl, Nat.le_of_ble_eq_true rfl⟩) (gL.1) rfl rfl hl.1 rfl (Nat.le_of_ble_eq_true rfl) dL_law_1277 ⟨Nat.le_refl _, Nat.le_refl _⟩ (fun r1 σ1 H locs q1 hP hS => ?_)
  try dsimp only at q1
  obtain ⟨w1, p1⟩ := q1
  have B : ∀ a k : Nat, y ≤ a → a ≤ y + 12 → σ1 a k = σ a k := fun a k h1 h2 => w1 a k ((dW_181 x y hxy) a k h1 h2)
  have hJ1 : zz_IM σ1 y := hR.2.1.far B
  refine lv_pop hx hb dL_law_1280 rfl ?_
  refine lv_aload_n hx hb dL_law_1281 rfl (lv_at hl 2 rfl) ?_
  refine zz_callVi (As := []) (rest := []) ⟨hx, hb, hml, hown, hts⟩ hK hP hS (c_X9_image l E σ1 y gM hJ1) (cwV 0 hts gL_law_X9_image rfl rfl rfl (by decide +kernel) ⟨Nat.le_of_ble_eq_true rfl, Nat.le_of_ble_eq_true rfl⟩) (gM.1) rfl rfl hl.1 rfl (Nat.le_of_ble_eq_true rfl) dL_law_1282 ⟨Nat.le_refl _, Nat.le_refl _⟩ (fun r2 σ2 H locs q2 hP hS => ?_)
  try dsimp only at q2
  obtain ⟨w2, p2⟩ := q2
  have A : ∀ a k : Nat, x ≤ a → a < x + 76 → σ2 a k = σ1 a k := fun a k h1 h2 => w2 a k ((dW_182 x y hxy) a k h1 h2)
  obtain ⟨i1, p1⟩ := p1
  obtain ⟨i2, p2⟩ := p2
  obtain ⟨-, -, hr, hk, hm⟩ := hR
  obtain ⟨pr1, pi1, pa⟩ := p1
  obtain ⟨pr2, pi2, pb⟩ := p2
  have hs : zz_RR σ2 (x + 28) (y + 2) := ⟨by rw [A (x + 28) 0 (by omega) (by omega), pa.1, pb 0 (by omega), B (y + 1) 0 (by omega) (by omega)]; exact hr.1, by rw [A (x + 28) 1 (by omega) (by omega), pa.2.1, pb 4 (by omega), B (y + 1) 4 (by omega) (by omega)]; exact hr.2.1, by rw [A (x + 28) 2 (by omega) (by omega), pa.2.2.1, pb 1 (by omega), B (y + 1) 1 (by omega) (by omega)]; exact hr.2.2.1, by rw [A (x + 28) 4 (by omega) (by omega), pa.2.2.2.1, pb 2 (by omega), B (y + 1) 2 (by omega) (by omega)]; exact hr.2.2.2.1, by rw [A (x + 28) 6 (by omega) (by omega), pa.2.2.2.2.1, pb 3 (by omega), B (y + 1) 3 (by omega) (by omega)]; exact hr.2.2.2.2.1, by rw [A (x + 28) 9 (by omega) (by omega), pa.2.2.2.2.2.1, pb 5 (by omega), B (y + 1) 5 (by omega) (by omega)]; exact hr.2.2.2.2.2.1, by rw [A (x + 28) 11 (by omega) (by omega), pa.2.2.2.2.2.2, pb 6 (by omega), B (y + 1) 6 (by omega) (by omega)]; exact hr.2.2.2.2.2.2⟩
  have hn : zz_RR σ2 (x + 1) (y + 1) := hr.keep7 (fun k _ => (A _ k (by omega) (by omega)).trans (w1 (x + 1) k (by first | omega | (dsimp only; omega)))) (fun k _ => (w2 (y + 1) k (by first | omega | (dsimp only; omega))).trans (B _ k (by omega) (by omega)))
  have hm2 : (σ2 x 2).toInt = (σ2 y 2).toInt := by rw [A x 2 (by omega) (by omega), pi1, pi2, B y 2 (by omega) (by omega), zz_ext hm]
  have hRL : zz_RL σ2 x y := ⟨i1.far A, i2, hn, Or.inr hs, hm2⟩
  refine lv_pop hx hb dL_law_1285 rfl ?_
  refine lv_goto (tgt := 1384) hx hb dL_law_1286 (by decide) ?_
  exact kk _ _ _ hRL hP hS
theorem gL_law_X8_restore : GoodIn wsL_law (wsV RL 154 RX8 yX8_restore wzX8_restore) := wz_coL bm_978 (wz_coL bm_979 (wz_coL bm_980 (wz_coL bm_2 (wz_inL bm_981))))
theorem gL_law_X9_restore : GoodIn wsL_law (wsV RL 157 RX9 yX9_restore wzX9_restore) := wz_coL bm_982 (wz_coL bm_983 (wz_coL bm_984 (wz_coL bm_5 (wz_inL bm_985))))
theorem dW_183 (x y : Nat) (hxy : x + 76 ≤ y) : ∀ a k : Nat, y ≤ a → a ≤ y + 12 → ¬ (((x) ≤ (a) ∧ (a) < (x) + 76 ∧ (a) ≠ (x) ∧ (a) ≠ (x) + 1 ∧ (a) ≠ (x) + 5 ∧ (a) ≠ (x) + 22 ∧ (a) ≠ (x) + 25 ∧ (a) ≠ (x) + 28 ∧ (a) ≠ (x) + 32 ∧ (a) ≠ (x) + 49 ∧ (a) ≠ (x) + 52 ∧ (a) ≠ (x) + 56 ∧ (a) ≠ (x) + 68 ∧ (a) ≠ (x) + 70 ∧ (a) ≠ (x) + 72 ∧ (a) ≠ (x) + 74) ∨ ((x) + 1 ≤ (a) ∧ (a) < (x) + 28)) := by intros; omega
theorem dW_184 (x y : Nat) (hxy : x + 76 ≤ y) : ∀ a k : Nat, x ≤ a → a < x + 76 → ¬ (((a) = (y) + 3 ∨ ((y) + 6 ≤ (a) ∧ (a) ≤ (y) + 12)) ∨ (a) = (y) + 1) := by intros; omega
set_option maxHeartbeats 4000000 in
set_option maxRecDepth 100000 in
theorem lc_restore {p : Program} {l : Launch} {e : Env} {s : State} {m : MethodId} {below : List Frame} {meth : Method} {c : Code} {b L x y : Nat} {xs : Nat → Int32} {E : zz_E} {Q : State → Prop} (hA : zz_LA p s m c b L xs E x y) (i : Int32) (hi : 0 ≤ i.toInt ∧ i.toInt + 6 ≤ L) (σ : zz_S) (H : Heap) (locs : List Loc) (ls : Array Slot) (hR : zz_RL σ x y) (hP : zz_P E σ H) (hS : va_S (zz_A E) s.heap H locs) (hl : lv_has ls 4 [(0, .ref b), (1, .ref x), (2, .ref y), (3, .int i)])
    (kk : ∀ (σ1 : zz_S) (H1 : Heap) (locs1 : List Loc), zz_RL σ1 x y → zz_P E σ1 H1 → va_S (zz_A E) s.heap H1 locs1 → W p l e room_1 s m #[Value.ref b] below meth c H1 locs1 600000 7302250 Q (F0 m 1384 ls [])) : W p l e room_1 s m #[Value.ref b] below meth c H locs 600000 7302250 Q (F0 m 1289 ls []) := by
  obtain ⟨hx, hb, hml, hown, hts, hX, hbl, hbE, hL, gL, gM, hxy, hK⟩ := hA
  have hbA : ¬ zz_A E b := fun h => absurd (hbE b h) (Nat.not_le.mpr hbl)
  refine lv_aload_n hx hb dL_law_1289 rfl (lv_at hl 1 rfl) ?_
  refine zz_callVi (As := []) (rest := []) ⟨hx, hb, hml, hown, hts⟩ hK hP hS (c_X8_restore l E σ x gL hR.1) (cwV 0 hts gL_law_X8_restore rfl rfl rfl (by decide +kernel) ⟨Nat.le_of_ble_eq_true rfl, Nat.le_of_ble_eq_true rfl⟩) (gL.1) rfl rfl hl.1 rfl (Nat.le_of_ble_eq_true rfl) dL_law_1290 ⟨Nat.le_refl _, Nat.le_refl _⟩ (fun r1 σ1 H locs q1 hP hS => ?_)
  try dsimp only at q1
  obtain ⟨w1, p1⟩ := q1
  have B : ∀ a k : Nat, y ≤ a → a ≤ y + 12 → σ1 a k = σ a k := fun a k h1 h2 => w1 a k ((dW_183 x y hxy) a k h1 h2)
  have hJ1 : zz_IM σ1 y := hR.2.1.far B
  refine lv_pop hx hb dL_law_1293 rfl ?_
  refine lv_aload_n hx hb dL_law_1294 rfl (lv_at hl 2 rfl) ?_
  refine zz_callVi (As := []) (rest := []) ⟨hx, hb, hml, hown, hts⟩ hK hP hS (c_X9_restore l E σ1 y gM hJ1) (cwV 0 hts gL_law_X9_restore rfl rfl rfl (by decide +kernel) ⟨Nat.le_of_ble_eq_true rfl, Nat.le_of_ble_eq_true rfl⟩) (gM.1) rfl rfl hl.1 rfl (Nat.le_of_ble_eq_true rfl) dL_law_1295 ⟨Nat.le_refl _, Nat.le_refl _⟩ (fun r2 σ2 H locs q2 hP hS => ?_)
  try dsimp only at q2
  obtain ⟨w2, p2⟩ := q2
  have A : ∀ a k : Nat, x ≤ a → a < x + 76 → σ2 a k = σ1 a k := fun a k h1 h2 => w2 a k ((dW_184 x y hxy) a k h1 h2)
  obtain ⟨i1, p1⟩ := p1
  obtain ⟨i2, p2⟩ := p2
  obtain ⟨-, -, hr, hk, hm⟩ := hR
  have e0 : σ2 x 2 = σ x 2 := (A x 2 (by omega) (by omega)).trans (w1 x 2 (by first | omega | (dsimp only; omega)))
  have e1 : σ2 y 2 = σ y 2 := (w2 y 2 (by first | omega | (dsimp only; omega))).trans (B y 2 (by omega) (by omega))
  have e2 := congrArg Int32.toInt (B y 2 (by omega) (by omega))
  have hk2 : (σ2 x 2).toInt = 0 ∨ zz_RR σ2 (x + 28) (y + 2) := by rw [e0]; exact hk.imp id (fun q => q.keep7 (fun k _ => (A _ k (by omega) (by omega)).trans (w1 (x + 28) k (by first | omega | (dsimp only; omega)))) (fun k _ => (w2 (y + 2) k (by first | omega | (dsimp only; omega))).trans (B _ k (by omega) (by omega))))
  have hn : zz_RR σ2 (x + 1) (y + 1) := by
    rcases p1 with ⟨a1, -, a3⟩ | ⟨a1, -, a3⟩
    · rcases p2 with ⟨b1, -, b3⟩ | ⟨b1, -, b3⟩
      · exact ⟨by rw [A (x + 1) 0 (by omega) (by omega), a3.1, b3 0, B (y + 1) 0 (by omega) (by omega)]; exact hr.1, by rw [A (x + 1) 1 (by omega) (by omega), a3.2.1, b3 4, B (y + 1) 4 (by omega) (by omega)]; exact hr.2.1, by rw [A (x + 1) 2 (by omega) (by omega), a3.2.2.1, b3 1, B (y + 1) 1 (by omega) (by omega)]; exact hr.2.2.1, by rw [A (x + 1) 4 (by omega) (by omega), a3.2.2.2.1, b3 2, B (y + 1) 2 (by omega) (by omega)]; exact hr.2.2.2.1, by rw [A (x + 1) 6 (by omega) (by omega), a3.2.2.2.2.1, b3 3, B (y + 1) 3 (by omega) (by omega)]; exact hr.2.2.2.2.1, by rw [A (x + 1) 9 (by omega) (by omega), a3.2.2.2.2.2.1, b3 5, B (y + 1) 5 (by omega) (by omega)]; exact hr.2.2.2.2.2.1, by rw [A (x + 1) 11 (by omega) (by omega), a3.2.2.2.2.2.2, b3 6, B (y + 1) 6 (by omega) (by omega)]; exact hr.2.2.2.2.2.2⟩
      · exact absurd a1 (by omega)
    · rcases p2 with ⟨b1, -, b3⟩ | ⟨b1, -, b3⟩
      · exact absurd b1 (by omega)
      · rcases hk with q | q
        · exact absurd q a1
        · exact ⟨by rw [A (x + 1) 0 (by omega) (by omega), a3.1, b3 0 (by omega), B (y + 2) 0 (by omega) (by omega)]; exact q.1, by rw [A (x + 1) 1 (by omega) (by omega), a3.2.1, b3 4 (by omega), B (y + 2) 4 (by omega) (by omega)]; exact q.2.1, by rw [A (x + 1) 2 (by omega) (by omega), a3.2.2.1, b3 1 (by omega), B (y + 2) 1 (by omega) (by omega)]; exact q.2.2.1, by rw [A (x + 1) 4 (by omega) (by omega), a3.2.2.2.1, b3 2 (by omega), B (y + 2) 2 (by omega) (by omega)]; exact q.2.2.2.1, by rw [A (x + 1) 6 (by omega) (by omega), a3.2.2.2.2.1, b3 3 (by omega), B (y + 2) 3 (by omega) (by omega)]; exact q.2.2.2.2.1, by rw [A (x + 1) 9 (by omega) (by omega), a3.2.2.2.2.2.1, b3 5 (by omega), B (y + 2) 5 (by omega) (by omega)]; exact q.2.2.2.2.2.1, by rw [A (x + 1) 11 (by omega) (by omega), a3.2.2.2.2.2.2, b3 6 (by omega), B (y + 2) 6 (by omega) (by omega)]; exact q.2.2.2.2.2.2⟩
  have hRL : zz_RL σ2 x y := ⟨i1.far A, i2, hn, hk2, by rw [e0, e1]; exact hm⟩
  refine lv_pop hx hb dL_law_1298 rfl ?_
  refine lv_goto (tgt := 1384) hx hb dL_law_1299 (by decide) ?_
  exact kk _ _ _ hRL hP hS
theorem gL_law_X8_tell : GoodIn wsL_law (wsV RL 158 RX8 yX8_tell wzX8_tell) := wz_coL bm_986 (wz_coL bm_987 (wz_coL bm_988 (wz_coL bm_2 (wz_inL bm_989))))
theorem gL_law_X9_tell : GoodIn wsL_law (wsV RL 161 RX9 yX9_tell wzX9_tell) := wz_coL bm_992 (wz_coL bm_993 (wz_coL bm_994 (wz_coL bm_5 (wz_inL bm_995))))
theorem dW_185 (x y : Nat) (hxy : x + 76 ≤ y) : ∀ a k : Nat, y ≤ a → a ≤ y + 12 → ¬ (((x) ≤ (a) ∧ (a) < (x) + 76 ∧ (a) ≠ (x) ∧ (a) ≠ (x) + 1 ∧ (a) ≠ (x) + 5 ∧ (a) ≠ (x) + 22 ∧ (a) ≠ (x) + 25 ∧ (a) ≠ (x) + 28 ∧ (a) ≠ (x) + 32 ∧ (a) ≠ (x) + 49 ∧ (a) ≠ (x) + 52 ∧ (a) ≠ (x) + 56 ∧ (a) ≠ (x) + 68 ∧ (a) ≠ (x) + 70 ∧ (a) ≠ (x) + 72 ∧ (a) ≠ (x) + 74) ∨ ((a) = (x) + 1 ∧ (k) = 11)) := by intros; omega
theorem dW_186 (x y : Nat) (hxy : x + 76 ≤ y) : ∀ a k : Nat, x ≤ a → a < x + 76 → ¬ (((a) = (y) + 3 ∨ ((y) + 6 ≤ (a) ∧ (a) ≤ (y) + 12)) ∨ ((a) = (y) + 1 ∧ ((k) = 6 ∨ (133 ≤ (k) ∧ (k) < 157)))) := by intros; omega
theorem dW_187 (x y : Nat) (hxy : x + 76 ≤ y) : ∀ k : Nat, ¬ (((x) ≤ ((x + 28)) ∧ ((x + 28)) < (x) + 76 ∧ ((x + 28)) ≠ (x) ∧ ((x + 28)) ≠ (x) + 1 ∧ ((x + 28)) ≠ (x) + 5 ∧ ((x + 28)) ≠ (x) + 22 ∧ ((x + 28)) ≠ (x) + 25 ∧ ((x + 28)) ≠ (x) + 28 ∧ ((x + 28)) ≠ (x) + 32 ∧ ((x + 28)) ≠ (x) + 49 ∧ ((x + 28)) ≠ (x) + 52 ∧ ((x + 28)) ≠ (x) + 56 ∧ ((x + 28)) ≠ (x) + 68 ∧ ((x + 28)) ≠ (x) + 70 ∧ ((x + 28)) ≠ (x) + 72 ∧ ((x + 28)) ≠ (x) + 74) ∨ (((x + 28)) = (x) + 1 ∧ (k) = 11)) := by intros; omega
theorem dW_188 (x y : Nat) (hxy : x + 76 ≤ y) : ¬ (((x) ≤ (x) ∧ (x) < (x) + 76 ∧ (x) ≠ (x) ∧ (x) ≠ (x) + 1 ∧ (x) ≠ (x) + 5 ∧ (x) ≠ (x) + 22 ∧ (x) ≠ (x) + 25 ∧ (x) ≠ (x) + 28 ∧ (x) ≠ (x) + 32 ∧ (x) ≠ (x) + 49 ∧ (x) ≠ (x) + 52 ∧ (x) ≠ (x) + 56 ∧ (x) ≠ (x) + 68 ∧ (x) ≠ (x) + 70 ∧ (x) ≠ (x) + 72 ∧ (x) ≠ (x) + 74) ∨ ((x) = (x) + 1 ∧ (2) = 11)) := by omega
theorem dW_189 (x y : Nat) (hxy : x + 76 ≤ y) : ∀ k : Nat, ¬ ((((y + 2)) = (y) + 3 ∨ ((y) + 6 ≤ ((y + 2)) ∧ ((y + 2)) ≤ (y) + 12)) ∨ (((y + 2)) = (y) + 1 ∧ ((k) = 6 ∨ (133 ≤ (k) ∧ (k) < 157)))) := by intros; omega
theorem dW_190 (x y : Nat) (hxy : x + 76 ≤ y) : ¬ (((y) = (y) + 3 ∨ ((y) + 6 ≤ (y) ∧ (y) ≤ (y) + 12)) ∨ ((y) = (y) + 1 ∧ ((2) = 6 ∨ (133 ≤ (2) ∧ (2) < 157)))) := by omega
theorem dW_191 (x y : Nat) (hxy : x + 76 ≤ y) : ¬ (((x) ≤ ((x + 1)) ∧ ((x + 1)) < (x) + 76 ∧ ((x + 1)) ≠ (x) ∧ ((x + 1)) ≠ (x) + 1 ∧ ((x + 1)) ≠ (x) + 5 ∧ ((x + 1)) ≠ (x) + 22 ∧ ((x + 1)) ≠ (x) + 25 ∧ ((x + 1)) ≠ (x) + 28 ∧ ((x + 1)) ≠ (x) + 32 ∧ ((x + 1)) ≠ (x) + 49 ∧ ((x + 1)) ≠ (x) + 52 ∧ ((x + 1)) ≠ (x) + 56 ∧ ((x + 1)) ≠ (x) + 68 ∧ ((x + 1)) ≠ (x) + 70 ∧ ((x + 1)) ≠ (x) + 72 ∧ ((x + 1)) ≠ (x) + 74) ∨ (((x + 1)) = (x) + 1 ∧ (0) = 11)) := by omega
theorem dW_192 (x y : Nat) (hxy : x + 76 ≤ y) : ¬ ((((y + 1)) = (y) + 3 ∨ ((y) + 6 ≤ ((y + 1)) ∧ ((y + 1)) ≤ (y) + 12)) ∨ (((y + 1)) = (y) + 1 ∧ ((0) = 6 ∨ (133 ≤ (0) ∧ (0) < 157)))) := by omega
theorem dW_193 (x y : Nat) (hxy : x + 76 ≤ y) : ¬ (((x) ≤ ((x + 1)) ∧ ((x + 1)) < (x) + 76 ∧ ((x + 1)) ≠ (x) ∧ ((x + 1)) ≠ (x) + 1 ∧ ((x + 1)) ≠ (x) + 5 ∧ ((x + 1)) ≠ (x) + 22 ∧ ((x + 1)) ≠ (x) + 25 ∧ ((x + 1)) ≠ (x) + 28 ∧ ((x + 1)) ≠ (x) + 32 ∧ ((x + 1)) ≠ (x) + 49 ∧ ((x + 1)) ≠ (x) + 52 ∧ ((x + 1)) ≠ (x) + 56 ∧ ((x + 1)) ≠ (x) + 68 ∧ ((x + 1)) ≠ (x) + 70 ∧ ((x + 1)) ≠ (x) + 72 ∧ ((x + 1)) ≠ (x) + 74) ∨ (((x + 1)) = (x) + 1 ∧ (1) = 11)) := by omega
theorem dW_194 (x y : Nat) (hxy : x + 76 ≤ y) : ¬ ((((y + 1)) = (y) + 3 ∨ ((y) + 6 ≤ ((y + 1)) ∧ ((y + 1)) ≤ (y) + 12)) ∨ (((y + 1)) = (y) + 1 ∧ ((4) = 6 ∨ (133 ≤ (4) ∧ (4) < 157)))) := by omega
theorem dW_195 (x y : Nat) (hxy : x + 76 ≤ y) : ¬ (((x) ≤ ((x + 1)) ∧ ((x + 1)) < (x) + 76 ∧ ((x + 1)) ≠ (x) ∧ ((x + 1)) ≠ (x) + 1 ∧ ((x + 1)) ≠ (x) + 5 ∧ ((x + 1)) ≠ (x) + 22 ∧ ((x + 1)) ≠ (x) + 25 ∧ ((x + 1)) ≠ (x) + 28 ∧ ((x + 1)) ≠ (x) + 32 ∧ ((x + 1)) ≠ (x) + 49 ∧ ((x + 1)) ≠ (x) + 52 ∧ ((x + 1)) ≠ (x) + 56 ∧ ((x + 1)) ≠ (x) + 68 ∧ ((x + 1)) ≠ (x) + 70 ∧ ((x + 1)) ≠ (x) + 72 ∧ ((x + 1)) ≠ (x) + 74) ∨ (((x + 1)) = (x) + 1 ∧ (2) = 11)) := by omega
theorem dW_196 (x y : Nat) (hxy : x + 76 ≤ y) : ¬ ((((y + 1)) = (y) + 3 ∨ ((y) + 6 ≤ ((y + 1)) ∧ ((y + 1)) ≤ (y) + 12)) ∨ (((y + 1)) = (y) + 1 ∧ ((1) = 6 ∨ (133 ≤ (1) ∧ (1) < 157)))) := by omega
theorem dW_197 (x y : Nat) (hxy : x + 76 ≤ y) : ¬ (((x) ≤ ((x + 1)) ∧ ((x + 1)) < (x) + 76 ∧ ((x + 1)) ≠ (x) ∧ ((x + 1)) ≠ (x) + 1 ∧ ((x + 1)) ≠ (x) + 5 ∧ ((x + 1)) ≠ (x) + 22 ∧ ((x + 1)) ≠ (x) + 25 ∧ ((x + 1)) ≠ (x) + 28 ∧ ((x + 1)) ≠ (x) + 32 ∧ ((x + 1)) ≠ (x) + 49 ∧ ((x + 1)) ≠ (x) + 52 ∧ ((x + 1)) ≠ (x) + 56 ∧ ((x + 1)) ≠ (x) + 68 ∧ ((x + 1)) ≠ (x) + 70 ∧ ((x + 1)) ≠ (x) + 72 ∧ ((x + 1)) ≠ (x) + 74) ∨ (((x + 1)) = (x) + 1 ∧ (4) = 11)) := by omega
theorem dW_198 (x y : Nat) (hxy : x + 76 ≤ y) : ¬ ((((y + 1)) = (y) + 3 ∨ ((y) + 6 ≤ ((y + 1)) ∧ ((y + 1)) ≤ (y) + 12)) ∨ (((y + 1)) = (y) + 1 ∧ ((2) = 6 ∨ (133 ≤ (2) ∧ (2) < 157)))) := by omega
theorem dW_199 (x y : Nat) (hxy : x + 76 ≤ y) : ¬ (((x) ≤ ((x + 1)) ∧ ((x + 1)) < (x) + 76 ∧ ((x + 1)) ≠ (x) ∧ ((x + 1)) ≠ (x) + 1 ∧ ((x + 1)) ≠ (x) + 5 ∧ ((x + 1)) ≠ (x) + 22 ∧ ((x + 1)) ≠ (x) + 25 ∧ ((x + 1)) ≠ (x) + 28 ∧ ((x + 1)) ≠ (x) + 32 ∧ ((x + 1)) ≠ (x) + 49 ∧ ((x + 1)) ≠ (x) + 52 ∧ ((x + 1)) ≠ (x) + 56 ∧ ((x + 1)) ≠ (x) + 68 ∧ ((x + 1)) ≠ (x) + 70 ∧ ((x + 1)) ≠ (x) + 72 ∧ ((x + 1)) ≠ (x) + 74) ∨ (((x + 1)) = (x) + 1 ∧ (6) = 11)) := by omega
theorem dW_200 (x y : Nat) (hxy : x + 76 ≤ y) : ¬ ((((y + 1)) = (y) + 3 ∨ ((y) + 6 ≤ ((y + 1)) ∧ ((y + 1)) ≤ (y) + 12)) ∨ (((y + 1)) = (y) + 1 ∧ ((3) = 6 ∨ (133 ≤ (3) ∧ (3) < 157)))) := by omega
theorem dW_201 (x y : Nat) (hxy : x + 76 ≤ y) : ¬ (((x) ≤ ((x + 1)) ∧ ((x + 1)) < (x) + 76 ∧ ((x + 1)) ≠ (x) ∧ ((x + 1)) ≠ (x) + 1 ∧ ((x + 1)) ≠ (x) + 5 ∧ ((x + 1)) ≠ (x) + 22 ∧ ((x + 1)) ≠ (x) + 25 ∧ ((x + 1)) ≠ (x) + 28 ∧ ((x + 1)) ≠ (x) + 32 ∧ ((x + 1)) ≠ (x) + 49 ∧ ((x + 1)) ≠ (x) + 52 ∧ ((x + 1)) ≠ (x) + 56 ∧ ((x + 1)) ≠ (x) + 68 ∧ ((x + 1)) ≠ (x) + 70 ∧ ((x + 1)) ≠ (x) + 72 ∧ ((x + 1)) ≠ (x) + 74) ∨ (((x + 1)) = (x) + 1 ∧ (9) = 11)) := by omega
theorem dW_202 (x y : Nat) (hxy : x + 76 ≤ y) : ¬ ((((y + 1)) = (y) + 3 ∨ ((y) + 6 ≤ ((y + 1)) ∧ ((y + 1)) ≤ (y) + 12)) ∨ (((y + 1)) = (y) + 1 ∧ ((5) = 6 ∨ (133 ≤ (5) ∧ (5) < 157)))) := by omega
set_option maxHeartbeats 4000000 in
set_option maxRecDepth 100000 in
theorem lc_tell {p : Program} {l : Launch} {e : Env} {s : State} {m : MethodId} {below : List Frame} {meth : Method} {c : Code} {b L x y : Nat} {xs : Nat → Int32} {E : zz_E} {Q : State → Prop} (hA : zz_LA p s m c b L xs E x y) (i : Int32) (hi : 0 ≤ i.toInt ∧ i.toInt + 6 ≤ L) (σ : zz_S) (H : Heap) (locs : List Loc) (ls : Array Slot) (hR : zz_RL σ x y) (hP : zz_P E σ H) (hS : va_S (zz_A E) s.heap H locs) (hl : lv_has ls 4 [(0, .ref b), (1, .ref x), (2, .ref y), (3, .int i)])
    (kk : ∀ (σ1 : zz_S) (H1 : Heap) (locs1 : List Loc), zz_RL σ1 x y → zz_P E σ1 H1 → va_S (zz_A E) s.heap H1 locs1 → W p l e room_1 s m #[Value.ref b] below meth c H1 locs1 600000 7302250 Q (F0 m 1384 ls [])) : W p l e room_1 s m #[Value.ref b] below meth c H locs 600000 7302250 Q (F0 m 1302 ls []) := by
  obtain ⟨hx, hb, hml, hown, hts, hX, hbl, hbE, hL, gL, gM, hxy, hK⟩ := hA
  have hbA : ¬ zz_A E b := fun h => absurd (hbE b h) (Nat.not_le.mpr hbl)
  have k_1 : (1 : Int32).toInt = 1 := by decide +kernel
  refine lv_aload_n hx hb dL_law_1302 rfl (lv_at hl 1 rfl) ?_
  refine lv_aload_n hx hb dL_law_1303 rfl (lv_at hl 0 rfl) ?_
  refine lv_iload_n hx hb dL_law_1304 rfl (lv_at hl 3 rfl) ?_
  refine lv_iconst (v := 1) hx hb dL_law_1305 (by decide) ?_
  refine lv_iadd hx hb dL_law_1306 ?_
  refine lv_topi (fun n1 e1 => ?_)
  have f1 : n1.toInt = (i).toInt + (1 : Int32).toInt := zz_addT e1 (by omega) (by omega)
  refine va_sld hx hb hX hbl hbA hS (vp_in_iff.mpr ⟨by omega, by omega⟩) dL_law_1307 ?_
  refine lv_topi (fun v2 u2 => ?_)
  refine zz_callVi (As := [.int v2]) (rest := []) ⟨hx, hb, hml, hown, hts⟩ hK hP hS (c_X8_tell l E σ x v2 gL hR.1) (cwV 1 hts gL_law_X8_tell rfl rfl rfl (by decide +kernel) ⟨Nat.le_of_ble_eq_true rfl, Nat.le_of_ble_eq_true rfl⟩) (gL.1) rfl rfl hl.1 rfl (Nat.le_of_ble_eq_true rfl) dL_law_1308 ⟨Nat.le_refl _, Nat.le_refl _⟩ (fun r1 σ1 H locs q1 hP hS => ?_)
  try dsimp only at q1
  obtain ⟨w1, p1⟩ := q1
  have B : ∀ a k : Nat, y ≤ a → a ≤ y + 12 → σ1 a k = σ a k := fun a k h1 h2 => w1 a k ((dW_185 x y hxy) a k h1 h2)
  have hJ1 : zz_IM σ1 y := hR.2.1.far B
  refine lv_aload_n hx hb dL_law_1311 rfl (lv_at hl 2 rfl) ?_
  refine lv_aload_n hx hb dL_law_1312 rfl (lv_at hl 0 rfl) ?_
  refine lv_iload_n hx hb dL_law_1313 rfl (lv_at hl 3 rfl) ?_
  refine lv_iconst (v := 1) hx hb dL_law_1314 (by decide) ?_
  refine lv_iadd hx hb dL_law_1315 ?_
  refine lv_topi (fun n4 e4 => ?_)
  have f4 : n4.toInt = (i).toInt + (1 : Int32).toInt := zz_addT e4 (by omega) (by omega)
  refine va_sld hx hb hX hbl hbA hS (vp_in_iff.mpr ⟨by omega, by omega⟩) dL_law_1316 ?_
  refine lv_topi (fun v5 u5 => ?_)
  have z5 : v5 = v2 := by rw [u5, u2, e4, e1]
  have zt5 := congrArg Int32.toInt z5
  refine zz_callVi (As := [.int v5]) (rest := [.int r1]) ⟨hx, hb, hml, hown, hts⟩ hK hP hS (c_X9_tell l E σ1 y v5 gM hJ1) (cwV 1 hts gL_law_X9_tell rfl rfl rfl (by decide +kernel) ⟨Nat.le_of_ble_eq_true rfl, Nat.le_of_ble_eq_true rfl⟩) (gM.1) rfl rfl hl.1 rfl (Nat.le_of_ble_eq_true rfl) dL_law_1317 ⟨Nat.le_refl _, Nat.le_refl _⟩ (fun r2 σ2 H locs q2 hP hS => ?_)
  try dsimp only at q2
  obtain ⟨w2, p2⟩ := q2
  have A : ∀ a k : Nat, x ≤ a → a < x + 76 → σ2 a k = σ1 a k := fun a k h1 h2 => w2 a k ((dW_186 x y hxy) a k h1 h2)
  obtain ⟨i1, p1⟩ := p1
  obtain ⟨i2, p2⟩ := p2
  obtain ⟨h0, h1, h2, h3, h4, h5, h6⟩ := hR.2.2.1
  have ga6 := congrArg Int32.toInt (A (x + 1) 11 (by omega) (by omega))
  have gb6 := congrArg Int32.toInt (B (y + 1) 6 (by omega) (by omega))
  have rr2 : zz_RR σ2 (x + 1) (y + 1) := ⟨(congrArg Int32.toInt (A (x + 1) 0 (by omega) (by omega))).trans ((congrArg Int32.toInt (w1 (x + 1) 0 (dW_191 x y hxy))).trans (h0.trans ((congrArg Int32.toInt (B (y + 1) 0 (by omega) (by omega))).symm.trans (congrArg Int32.toInt (w2 (y + 1) 0 (dW_192 x y hxy))).symm))), (congrArg Int32.toInt (A (x + 1) 1 (by omega) (by omega))).trans ((congrArg Int32.toInt (w1 (x + 1) 1 (dW_193 x y hxy))).trans (h1.trans ((congrArg Int32.toInt (B (y + 1) 4 (by omega) (by omega))).symm.trans (congrArg Int32.toInt (w2 (y + 1) 4 (dW_194 x y hxy))).symm))), (congrArg Int32.toInt (A (x + 1) 2 (by omega) (by omega))).trans ((congrArg Int32.toInt (w1 (x + 1) 2 (dW_195 x y hxy))).trans (h2.trans ((congrArg Int32.toInt (B (y + 1) 1 (by omega) (by omega))).symm.trans (congrArg Int32.toInt (w2 (y + 1) 1 (dW_196 x y hxy))).symm))), (congrArg Int32.toInt (A (x + 1) 4 (by omega) (by omega))).trans ((congrArg Int32.toInt (w1 (x + 1) 4 (dW_197 x y hxy))).trans (h3.trans ((congrArg Int32.toInt (B (y + 1) 2 (by omega) (by omega))).symm.trans (congrArg Int32.toInt (w2 (y + 1) 2 (dW_198 x y hxy))).symm))), (congrArg Int32.toInt (A (x + 1) 6 (by omega) (by omega))).trans ((congrArg Int32.toInt (w1 (x + 1) 6 (dW_199 x y hxy))).trans (h4.trans ((congrArg Int32.toInt (B (y + 1) 3 (by omega) (by omega))).symm.trans (congrArg Int32.toInt (w2 (y + 1) 3 (dW_200 x y hxy))).symm))), (congrArg Int32.toInt (A (x + 1) 9 (by omega) (by omega))).trans ((congrArg Int32.toInt (w1 (x + 1) 9 (dW_201 x y hxy))).trans (h5.trans ((congrArg Int32.toInt (B (y + 1) 5 (by omega) (by omega))).symm.trans (congrArg Int32.toInt (w2 (y + 1) 5 (dW_202 x y hxy))).symm))), by omega⟩
  have hRL : zz_RL σ2 x y := hR.real i1 i2 A B rr2 (fun k => w1 (x + 28) k ((dW_187 x y hxy) k)) (w1 x 2 (dW_188 x y hxy)) (fun k => w2 (y + 2) k ((dW_189 x y hxy) k)) (w2 y 2 (dW_190 x y hxy))
  have hrr : r1.toInt = r2.toInt := by omega
  refine lv_icmp_eq (tgt := 1384) hx hb dL_law_1320 (by decide) (fun _ => kk _ _ _ hRL hP hS) (fun cc => absurd (zz_ext hrr) cc)
theorem gL_law_X8_check : GoodIn wsL_law (wsV RL 162 RX8 yX8_check wzX8_check) := wz_coL bm_996 (wz_coL bm_997 (wz_coL bm_998 (wz_coL bm_2 (wz_inL bm_999))))
theorem gL_law_X9_check : GoodIn wsL_law (wsV RL 165 RX9 yX9_check wzX9_check) := wz_coL bm_1000 (wz_coL bm_1001 (wz_coL bm_1002 (wz_coL bm_5 (wz_inL bm_1003))))
theorem dW_203 (x y : Nat) (hxy : x + 76 ≤ y) : ∀ a k : Nat, x ≤ a → a < x + 76 → ¬ (((a) = (y) + 3 ∨ ((y) + 6 ≤ (a) ∧ (a) ≤ (y) + 12)) ∨ ((a) = (y) + 1 ∧ (k) = 6)) := by intros; omega
theorem dW_204 (x y : Nat) (hxy : x + 76 ≤ y) : ∀ k : Nat, ¬ ((((y + 2)) = (y) + 3 ∨ ((y) + 6 ≤ ((y + 2)) ∧ ((y + 2)) ≤ (y) + 12)) ∨ (((y + 2)) = (y) + 1 ∧ (k) = 6)) := by intros; omega
theorem dW_205 (x y : Nat) (hxy : x + 76 ≤ y) : ¬ (((y) = (y) + 3 ∨ ((y) + 6 ≤ (y) ∧ (y) ≤ (y) + 12)) ∨ ((y) = (y) + 1 ∧ (2) = 6)) := by omega
theorem dW_206 (x y : Nat) (hxy : x + 76 ≤ y) : ¬ ((((y + 1)) = (y) + 3 ∨ ((y) + 6 ≤ ((y + 1)) ∧ ((y + 1)) ≤ (y) + 12)) ∨ (((y + 1)) = (y) + 1 ∧ (0) = 6)) := by omega
theorem dW_207 (x y : Nat) (hxy : x + 76 ≤ y) : ¬ ((((y + 1)) = (y) + 3 ∨ ((y) + 6 ≤ ((y + 1)) ∧ ((y + 1)) ≤ (y) + 12)) ∨ (((y + 1)) = (y) + 1 ∧ (4) = 6)) := by omega
theorem dW_208 (x y : Nat) (hxy : x + 76 ≤ y) : ¬ ((((y + 1)) = (y) + 3 ∨ ((y) + 6 ≤ ((y + 1)) ∧ ((y + 1)) ≤ (y) + 12)) ∨ (((y + 1)) = (y) + 1 ∧ (1) = 6)) := by omega
theorem dW_209 (x y : Nat) (hxy : x + 76 ≤ y) : ¬ ((((y + 1)) = (y) + 3 ∨ ((y) + 6 ≤ ((y + 1)) ∧ ((y + 1)) ≤ (y) + 12)) ∨ (((y + 1)) = (y) + 1 ∧ (2) = 6)) := by omega
theorem dW_210 (x y : Nat) (hxy : x + 76 ≤ y) : ¬ ((((y + 1)) = (y) + 3 ∨ ((y) + 6 ≤ ((y + 1)) ∧ ((y + 1)) ≤ (y) + 12)) ∨ (((y + 1)) = (y) + 1 ∧ (3) = 6)) := by omega
theorem dW_211 (x y : Nat) (hxy : x + 76 ≤ y) : ¬ ((((y + 1)) = (y) + 3 ∨ ((y) + 6 ≤ ((y + 1)) ∧ ((y + 1)) ≤ (y) + 12)) ∨ (((y + 1)) = (y) + 1 ∧ (5) = 6)) := by omega
set_option maxHeartbeats 4000000 in
set_option maxRecDepth 100000 in
theorem lc_check {p : Program} {l : Launch} {e : Env} {s : State} {m : MethodId} {below : List Frame} {meth : Method} {c : Code} {b L x y : Nat} {xs : Nat → Int32} {E : zz_E} {Q : State → Prop} (hA : zz_LA p s m c b L xs E x y) (i : Int32) (hi : 0 ≤ i.toInt ∧ i.toInt + 6 ≤ L) (σ : zz_S) (H : Heap) (locs : List Loc) (ls : Array Slot) (hR : zz_RL σ x y) (hP : zz_P E σ H) (hS : va_S (zz_A E) s.heap H locs) (hl : lv_has ls 4 [(0, .ref b), (1, .ref x), (2, .ref y), (3, .int i)])
    (kk : ∀ (σ1 : zz_S) (H1 : Heap) (locs1 : List Loc), zz_RL σ1 x y → zz_P E σ1 H1 → va_S (zz_A E) s.heap H1 locs1 → W p l e room_1 s m #[Value.ref b] below meth c H1 locs1 600000 7302250 Q (F0 m 1384 ls [])) : W p l e room_1 s m #[Value.ref b] below meth c H locs 600000 7302250 Q (F0 m 1325 ls []) := by
  obtain ⟨hx, hb, hml, hown, hts, hX, hbl, hbE, hL, gL, gM, hxy, hK⟩ := hA
  have hbA : ¬ zz_A E b := fun h => absurd (hbE b h) (Nat.not_le.mpr hbl)
  refine lv_aload_n hx hb dL_law_1325 rfl (lv_at hl 1 rfl) ?_
  refine zz_callVi (As := []) (rest := []) ⟨hx, hb, hml, hown, hts⟩ hK hP hS (c_X8_check l E σ x gL hR.1) (cwV 0 hts gL_law_X8_check rfl rfl rfl (by decide +kernel) ⟨Nat.le_of_ble_eq_true rfl, Nat.le_of_ble_eq_true rfl⟩) (gL.1) rfl rfl hl.1 rfl (Nat.le_of_ble_eq_true rfl) dL_law_1326 ⟨Nat.le_refl _, Nat.le_refl _⟩ (fun r1 σ1 H locs q1 hP hS => ?_)
  try dsimp only at q1
  obtain ⟨w1, p1⟩ := q1
  have B : ∀ a k : Nat, y ≤ a → a ≤ y + 12 → σ1 a k = σ a k := fun a k h1 h2 => w1 a k ((dW_185 x y hxy) a k h1 h2)
  have hJ1 : zz_IM σ1 y := hR.2.1.far B
  refine lv_pop hx hb dL_law_1329 rfl ?_
  refine lv_aload_n hx hb dL_law_1330 rfl (lv_at hl 2 rfl) ?_
  refine zz_callVi (As := []) (rest := []) ⟨hx, hb, hml, hown, hts⟩ hK hP hS (c_X9_check l E σ1 y gM hJ1) (cwV 0 hts gL_law_X9_check rfl rfl rfl (by decide +kernel) ⟨Nat.le_of_ble_eq_true rfl, Nat.le_of_ble_eq_true rfl⟩) (gM.1) rfl rfl hl.1 rfl (Nat.le_of_ble_eq_true rfl) dL_law_1331 ⟨Nat.le_refl _, Nat.le_refl _⟩ (fun r2 σ2 H locs q2 hP hS => ?_)
  try dsimp only at q2
  obtain ⟨w2, p2⟩ := q2
  have A : ∀ a k : Nat, x ≤ a → a < x + 76 → σ2 a k = σ1 a k := fun a k h1 h2 => w2 a k ((dW_203 x y hxy) a k h1 h2)
  obtain ⟨i1, p1⟩ := p1
  obtain ⟨i2, p2⟩ := p2
  obtain ⟨h0, h1, h2, h3, h4, h5, h6⟩ := hR.2.2.1
  have ga6 := congrArg Int32.toInt (A (x + 1) 11 (by omega) (by omega))
  have gb6 := congrArg Int32.toInt (B (y + 1) 6 (by omega) (by omega))
  have rr2 : zz_RR σ2 (x + 1) (y + 1) := ⟨(congrArg Int32.toInt (A (x + 1) 0 (by omega) (by omega))).trans ((congrArg Int32.toInt (w1 (x + 1) 0 (dW_191 x y hxy))).trans (h0.trans ((congrArg Int32.toInt (B (y + 1) 0 (by omega) (by omega))).symm.trans (congrArg Int32.toInt (w2 (y + 1) 0 (dW_206 x y hxy))).symm))), (congrArg Int32.toInt (A (x + 1) 1 (by omega) (by omega))).trans ((congrArg Int32.toInt (w1 (x + 1) 1 (dW_193 x y hxy))).trans (h1.trans ((congrArg Int32.toInt (B (y + 1) 4 (by omega) (by omega))).symm.trans (congrArg Int32.toInt (w2 (y + 1) 4 (dW_207 x y hxy))).symm))), (congrArg Int32.toInt (A (x + 1) 2 (by omega) (by omega))).trans ((congrArg Int32.toInt (w1 (x + 1) 2 (dW_195 x y hxy))).trans (h2.trans ((congrArg Int32.toInt (B (y + 1) 1 (by omega) (by omega))).symm.trans (congrArg Int32.toInt (w2 (y + 1) 1 (dW_208 x y hxy))).symm))), (congrArg Int32.toInt (A (x + 1) 4 (by omega) (by omega))).trans ((congrArg Int32.toInt (w1 (x + 1) 4 (dW_197 x y hxy))).trans (h3.trans ((congrArg Int32.toInt (B (y + 1) 2 (by omega) (by omega))).symm.trans (congrArg Int32.toInt (w2 (y + 1) 2 (dW_209 x y hxy))).symm))), (congrArg Int32.toInt (A (x + 1) 6 (by omega) (by omega))).trans ((congrArg Int32.toInt (w1 (x + 1) 6 (dW_199 x y hxy))).trans (h4.trans ((congrArg Int32.toInt (B (y + 1) 3 (by omega) (by omega))).symm.trans (congrArg Int32.toInt (w2 (y + 1) 3 (dW_210 x y hxy))).symm))), (congrArg Int32.toInt (A (x + 1) 9 (by omega) (by omega))).trans ((congrArg Int32.toInt (w1 (x + 1) 9 (dW_201 x y hxy))).trans (h5.trans ((congrArg Int32.toInt (B (y + 1) 5 (by omega) (by omega))).symm.trans (congrArg Int32.toInt (w2 (y + 1) 5 (dW_211 x y hxy))).symm))), by omega⟩
  have hRL : zz_RL σ2 x y := hR.real i1 i2 A B rr2 (fun k => w1 (x + 28) k ((dW_187 x y hxy) k)) (w1 x 2 (dW_188 x y hxy)) (fun k => w2 (y + 2) k ((dW_204 x y hxy) k)) (w2 y 2 (dW_205 x y hxy))
  refine lv_pop hx hb dL_law_1334 rfl ?_
  refine lv_goto (tgt := 1384) hx hb dL_law_1335 (by decide) ?_
  exact kk _ _ _ hRL hP hS
theorem gL_law_X8_count : GoodIn wsL_law (wsV RL 166 RX8 yX8_count wzX8_count) := wz_coL bm_1004 (wz_coL bm_1005 (wz_coL bm_1006 (wz_coL bm_2 (wz_inL bm_1007))))
theorem gL_law_X9_count : GoodIn wsL_law (wsV RL 169 RX9 yX9_count wzX9_count) := wz_coL bm_1008 (wz_coL bm_1009 (wz_coL bm_1010 (wz_coL bm_5 (wz_inL bm_1011))))
set_option maxHeartbeats 4000000 in
set_option maxRecDepth 100000 in
theorem lc_count {p : Program} {l : Launch} {e : Env} {s : State} {m : MethodId} {below : List Frame} {meth : Method} {c : Code} {b L x y : Nat} {xs : Nat → Int32} {E : zz_E} {Q : State → Prop} (hA : zz_LA p s m c b L xs E x y) (i : Int32) (hi : 0 ≤ i.toInt ∧ i.toInt + 6 ≤ L) (σ : zz_S) (H : Heap) (locs : List Loc) (ls : Array Slot) (hR : zz_RL σ x y) (hP : zz_P E σ H) (hS : va_S (zz_A E) s.heap H locs) (hl : lv_has ls 4 [(0, .ref b), (1, .ref x), (2, .ref y), (3, .int i)])
    (kk : ∀ (σ1 : zz_S) (H1 : Heap) (locs1 : List Loc), zz_RL σ1 x y → zz_P E σ1 H1 → va_S (zz_A E) s.heap H1 locs1 → W p l e room_1 s m #[Value.ref b] below meth c H1 locs1 600000 7302250 Q (F0 m 1384 ls [])) : W p l e room_1 s m #[Value.ref b] below meth c H locs 600000 7302250 Q (F0 m 1338 ls []) := by
  obtain ⟨hx, hb, hml, hown, hts, hX, hbl, hbE, hL, gL, gM, hxy, hK⟩ := hA
  have hbA : ¬ zz_A E b := fun h => absurd (hbE b h) (Nat.not_le.mpr hbl)
  have k_1 : (1 : Int32).toInt = 1 := by decide +kernel
  refine lv_aload_n hx hb dL_law_1338 rfl (lv_at hl 1 rfl) ?_
  refine lv_aload_n hx hb dL_law_1339 rfl (lv_at hl 0 rfl) ?_
  refine lv_iload_n hx hb dL_law_1340 rfl (lv_at hl 3 rfl) ?_
  refine lv_iconst (v := 1) hx hb dL_law_1341 (by decide) ?_
  refine lv_iadd hx hb dL_law_1342 ?_
  refine lv_topi (fun n1 e1 => ?_)
  have f1 : n1.toInt = (i).toInt + (1 : Int32).toInt := zz_addT e1 (by omega) (by omega)
  refine va_sld hx hb hX hbl hbA hS (vp_in_iff.mpr ⟨by omega, by omega⟩) dL_law_1343 ?_
  refine lv_topi (fun v2 u2 => ?_)
  refine zz_callVi (As := [.int v2]) (rest := []) ⟨hx, hb, hml, hown, hts⟩ hK hP hS (c_X8_count l E σ x v2 gL hR.1) (cwV 1 hts gL_law_X8_count rfl rfl rfl (by decide +kernel) ⟨Nat.le_of_ble_eq_true rfl, Nat.le_of_ble_eq_true rfl⟩) (gL.1) rfl rfl hl.1 rfl (Nat.le_of_ble_eq_true rfl) dL_law_1344 ⟨Nat.le_refl _, Nat.le_refl _⟩ (fun r1 σ1 H locs q1 hP hS => ?_)
  try dsimp only at q1
  obtain ⟨w1, p1⟩ := q1
  have B : ∀ a k : Nat, y ≤ a → a ≤ y + 12 → σ1 a k = σ a k := fun a k h1 h2 => w1 a k ((dW_19 x y hxy) a k h1 h2)
  have hJ1 : zz_IM σ1 y := hR.2.1.far B
  refine lv_pop hx hb dL_law_1347 rfl ?_
  refine lv_aload_n hx hb dL_law_1348 rfl (lv_at hl 2 rfl) ?_
  refine lv_aload_n hx hb dL_law_1349 rfl (lv_at hl 0 rfl) ?_
  refine lv_iload_n hx hb dL_law_1350 rfl (lv_at hl 3 rfl) ?_
  refine lv_iconst (v := 1) hx hb dL_law_1351 (by decide) ?_
  refine lv_iadd hx hb dL_law_1352 ?_
  refine lv_topi (fun n4 e4 => ?_)
  have f4 : n4.toInt = (i).toInt + (1 : Int32).toInt := zz_addT e4 (by omega) (by omega)
  refine va_sld hx hb hX hbl hbA hS (vp_in_iff.mpr ⟨by omega, by omega⟩) dL_law_1353 ?_
  refine lv_topi (fun v5 u5 => ?_)
  have z5 : v5 = v2 := by rw [u5, u2, e4, e1]
  have zt5 := congrArg Int32.toInt z5
  refine zz_callVi (As := [.int v5]) (rest := []) ⟨hx, hb, hml, hown, hts⟩ hK hP hS (c_X9_count l E σ1 y v5 gM hJ1) (cwV 1 hts gL_law_X9_count rfl rfl rfl (by decide +kernel) ⟨Nat.le_of_ble_eq_true rfl, Nat.le_of_ble_eq_true rfl⟩) (gM.1) rfl rfl hl.1 rfl (Nat.le_of_ble_eq_true rfl) dL_law_1354 ⟨Nat.le_refl _, Nat.le_refl _⟩ (fun r2 σ2 H locs q2 hP hS => ?_)
  try dsimp only at q2
  obtain ⟨w2, p2⟩ := q2
  have A : ∀ a k : Nat, x ≤ a → a < x + 76 → σ2 a k = σ1 a k := fun a k h1 h2 => w2 a k ((dW_20 x y hxy) a k h1 h2)
  have i1 : zz_IX σ1 x := hR.1.soft (w1.mono (dW_21 x y hxy))
  have i2 : zz_IM σ2 y := hJ1.soft (w2.mono (dW_22 x y hxy))
  have hRL : zz_RL σ2 x y := hR.soft i1 i2 A B (fun k => w1 (x + 1) k ((dW_28 x y hxy) k)) (fun k hk => w2 (y + 1) k ((dW_23 x y hxy) k hk)) (fun k => w1 (x + 28) k ((dW_24 x y hxy) k)) (w1 x 2 (dW_25 x y hxy)) (fun k => w2 (y + 2) k ((dW_26 x y hxy) k)) (w2 y 2 (dW_27 x y hxy))
  refine lv_pop hx hb dL_law_1357 rfl ?_
  refine lv_goto (tgt := 1384) hx hb dL_law_1358 (by decide) ?_
  exact kk _ _ _ hRL hP hS
theorem gL_law_X8_told : GoodIn wsL_law (wsV RL 170 RX8 yX8_told wzX8_told) := wz_coL bm_1012 (wz_coL bm_1013 (wz_coL bm_1014 (wz_coL bm_2 (wz_inL bm_1015))))
theorem gL_law_X9_told : GoodIn wsL_law (wsV RL 173 RX9 yX9_told wzX9_told) := wz_coL bm_1016 (wz_coL bm_1017 (wz_coL bm_1018 (wz_coL bm_5 (wz_inL bm_1019))))
set_option maxHeartbeats 4000000 in
set_option maxRecDepth 100000 in
theorem lc_told {p : Program} {l : Launch} {e : Env} {s : State} {m : MethodId} {below : List Frame} {meth : Method} {c : Code} {b L x y : Nat} {xs : Nat → Int32} {E : zz_E} {Q : State → Prop} (hA : zz_LA p s m c b L xs E x y) (i : Int32) (hi : 0 ≤ i.toInt ∧ i.toInt + 6 ≤ L) (σ : zz_S) (H : Heap) (locs : List Loc) (ls : Array Slot) (hR : zz_RL σ x y) (hP : zz_P E σ H) (hS : va_S (zz_A E) s.heap H locs) (hl : lv_has ls 4 [(0, .ref b), (1, .ref x), (2, .ref y), (3, .int i)])
    (kk : ∀ (σ1 : zz_S) (H1 : Heap) (locs1 : List Loc), zz_RL σ1 x y → zz_P E σ1 H1 → va_S (zz_A E) s.heap H1 locs1 → W p l e room_1 s m #[Value.ref b] below meth c H1 locs1 600000 7302250 Q (F0 m 1384 ls [])) : W p l e room_1 s m #[Value.ref b] below meth c H locs 600000 7302250 Q (F0 m 1361 ls []) := by
  obtain ⟨hx, hb, hml, hown, hts, hX, hbl, hbE, hL, gL, gM, hxy, hK⟩ := hA
  have hbA : ¬ zz_A E b := fun h => absurd (hbE b h) (Nat.not_le.mpr hbl)
  have k_1 : (1 : Int32).toInt = 1 := by decide +kernel
  refine lv_aload_n hx hb dL_law_1361 rfl (lv_at hl 1 rfl) ?_
  refine lv_aload_n hx hb dL_law_1362 rfl (lv_at hl 0 rfl) ?_
  refine lv_iload_n hx hb dL_law_1363 rfl (lv_at hl 3 rfl) ?_
  refine lv_iconst (v := 1) hx hb dL_law_1364 (by decide) ?_
  refine lv_iadd hx hb dL_law_1365 ?_
  refine lv_topi (fun n1 e1 => ?_)
  have f1 : n1.toInt = (i).toInt + (1 : Int32).toInt := zz_addT e1 (by omega) (by omega)
  refine va_sld hx hb hX hbl hbA hS (vp_in_iff.mpr ⟨by omega, by omega⟩) dL_law_1366 ?_
  refine lv_topi (fun v2 u2 => ?_)
  refine zz_callVi (As := [.int v2]) (rest := []) ⟨hx, hb, hml, hown, hts⟩ hK hP hS (c_X8_told l E σ x v2 gL hR.1) (cwV 1 hts gL_law_X8_told rfl rfl rfl (by decide +kernel) ⟨Nat.le_of_ble_eq_true rfl, Nat.le_of_ble_eq_true rfl⟩) (gL.1) rfl rfl hl.1 rfl (Nat.le_of_ble_eq_true rfl) dL_law_1367 ⟨Nat.le_refl _, Nat.le_refl _⟩ (fun r1 σ1 H locs q1 hP hS => ?_)
  try dsimp only at q1
  obtain ⟨w1, p1⟩ := q1
  have B : ∀ a k : Nat, y ≤ a → a ≤ y + 12 → σ1 a k = σ a k := fun a k h1 h2 => w1 a k ((dW_19 x y hxy) a k h1 h2)
  have hJ1 : zz_IM σ1 y := hR.2.1.far B
  refine lv_pop hx hb dL_law_1370 rfl ?_
  refine lv_aload_n hx hb dL_law_1371 rfl (lv_at hl 2 rfl) ?_
  refine lv_aload_n hx hb dL_law_1372 rfl (lv_at hl 0 rfl) ?_
  refine lv_iload_n hx hb dL_law_1373 rfl (lv_at hl 3 rfl) ?_
  refine lv_iconst (v := 1) hx hb dL_law_1374 (by decide) ?_
  refine lv_iadd hx hb dL_law_1375 ?_
  refine lv_topi (fun n4 e4 => ?_)
  have f4 : n4.toInt = (i).toInt + (1 : Int32).toInt := zz_addT e4 (by omega) (by omega)
  refine va_sld hx hb hX hbl hbA hS (vp_in_iff.mpr ⟨by omega, by omega⟩) dL_law_1376 ?_
  refine lv_topi (fun v5 u5 => ?_)
  have z5 : v5 = v2 := by rw [u5, u2, e4, e1]
  have zt5 := congrArg Int32.toInt z5
  refine zz_callVi (As := [.int v5]) (rest := []) ⟨hx, hb, hml, hown, hts⟩ hK hP hS (c_X9_told l E σ1 y v5 gM hJ1) (cwV 1 hts gL_law_X9_told rfl rfl rfl (by decide +kernel) ⟨Nat.le_of_ble_eq_true rfl, Nat.le_of_ble_eq_true rfl⟩) (gM.1) rfl rfl hl.1 rfl (Nat.le_of_ble_eq_true rfl) dL_law_1377 ⟨Nat.le_refl _, Nat.le_refl _⟩ (fun r2 σ2 H locs q2 hP hS => ?_)
  try dsimp only at q2
  obtain ⟨w2, p2⟩ := q2
  have A : ∀ a k : Nat, x ≤ a → a < x + 76 → σ2 a k = σ1 a k := fun a k h1 h2 => w2 a k ((dW_20 x y hxy) a k h1 h2)
  have i1 : zz_IX σ1 x := hR.1.soft (w1.mono (dW_21 x y hxy))
  have i2 : zz_IM σ2 y := hJ1.soft (w2.mono (dW_22 x y hxy))
  have hRL : zz_RL σ2 x y := hR.soft i1 i2 A B (fun k => w1 (x + 1) k ((dW_28 x y hxy) k)) (fun k hk => w2 (y + 1) k ((dW_23 x y hxy) k hk)) (fun k => w1 (x + 28) k ((dW_24 x y hxy) k)) (w1 x 2 (dW_25 x y hxy)) (fun k => w2 (y + 2) k ((dW_26 x y hxy) k)) (w2 y 2 (dW_27 x y hxy))
  refine lv_pop hx hb dL_law_1380 rfl ?_
  refine lv_goto (tgt := 1384) hx hb dL_law_1381 (by decide) ?_
  exact kk _ _ _ hRL hP hS
