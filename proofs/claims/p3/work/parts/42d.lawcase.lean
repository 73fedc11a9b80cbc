theorem gL_law_X8_wonts : GoodIn wsL_law (wsV RL 141 RX8 yX8_wonts wzX8_wonts) := wz_coL bm_927 (wz_coL bm_928 (wz_coL bm_929 (wz_coL bm_2 (wz_inL bm_930))))
theorem gL_law_X9_wonts : GoodIn wsL_law (wsV RL 144 RX9 yX9_wonts wzX9_wonts) := wz_coL bm_931 (wz_coL bm_932 (wz_coL bm_933 (wz_coL bm_5 (wz_inL bm_934))))
theorem dW_594 (x y : Nat) (hxy : x + 76 ≤ y) : ∀ a k : Nat, x ≤ a → a < x + 76 → ¬ (((a) = (y) + 3 ∨ ((y) + 7 ≤ (a) ∧ (a) ≤ (y) + 11)) ∨ ((a) = (y) + 1 ∧ 61 ≤ (k) ∧ (k) < 73 ∧ (k) % 2 = 1)) := by intros; omega
theorem dW_595 (x y : Nat) (hxy : x + 76 ≤ y) : ∀ k : Nat, k ≤ 6 → ¬ ((((y + 1)) = (y) + 3 ∨ ((y) + 7 ≤ ((y + 1)) ∧ ((y + 1)) ≤ (y) + 11)) ∨ (((y + 1)) = (y) + 1 ∧ 61 ≤ (k) ∧ (k) < 73 ∧ (k) % 2 = 1)) := by intros; omega
theorem dW_596 (x y : Nat) (hxy : x + 76 ≤ y) : ∀ k : Nat, ¬ ((((y + 2)) = (y) + 3 ∨ ((y) + 7 ≤ ((y + 2)) ∧ ((y + 2)) ≤ (y) + 11)) ∨ (((y + 2)) = (y) + 1 ∧ 61 ≤ (k) ∧ (k) < 73 ∧ (k) % 2 = 1)) := by intros; omega
theorem dW_597 (x y : Nat) (hxy : x + 76 ≤ y) : ¬ (((y) = (y) + 3 ∨ ((y) + 7 ≤ (y) ∧ (y) ≤ (y) + 11)) ∨ ((y) = (y) + 1 ∧ 61 ≤ (2) ∧ (2) < 73 ∧ (2) % 2 = 1)) := by omega
theorem dW_598 (x y : Nat) (hxy : x + 76 ≤ y) : ∀ k : Nat, 7 ≤ k → k < 61 → ¬ ((((y + 1)) = (y) + 3 ∨ ((y) + 7 ≤ ((y + 1)) ∧ ((y + 1)) ≤ (y) + 11)) ∨ (((y + 1)) = (y) + 1 ∧ 61 ≤ (k) ∧ (k) < 73 ∧ (k) % 2 = 1)) := by intros; omega
theorem dW_599 (x y : Nat) (hxy : x + 76 ≤ y) : ∀ j : Nat, j < 4 → ¬ ((((y + 4)) = (y) + 3 ∨ ((y) + 7 ≤ ((y + 4)) ∧ ((y + 4)) ≤ (y) + 11)) ∨ (((y + 4)) = (y) + 1 ∧ 61 ≤ (j) ∧ (j) < 73 ∧ (j) % 2 = 1)) := by intros; omega
theorem dW_600 (x y : Nat) (hxy : x + 76 ≤ y) : ∀ j : Nat, j < 4 → ¬ ((((y + 5)) = (y) + 3 ∨ ((y) + 7 ≤ ((y + 5)) ∧ ((y + 5)) ≤ (y) + 11)) ∨ (((y + 5)) = (y) + 1 ∧ 61 ≤ (j) ∧ (j) < 73 ∧ (j) % 2 = 1)) := by intros; omega
theorem dW_601 (x y : Nat) (hxy : x + 76 ≤ y) : ∀ k : Nat, k < 96 → ¬ ((((y + 6)) = (y) + 3 ∨ ((y) + 7 ≤ ((y + 6)) ∧ ((y + 6)) ≤ (y) + 11)) ∨ (((y + 6)) = (y) + 1 ∧ 61 ≤ (k) ∧ (k) < 73 ∧ (k) % 2 = 1)) := by intros; omega
theorem dW_602 (x y : Nat) (hxy : x + 76 ≤ y) : ¬ (((y) = (y) + 3 ∨ ((y) + 7 ≤ (y) ∧ (y) ≤ (y) + 11)) ∨ ((y) = (y) + 1 ∧ 61 ≤ (18) ∧ (18) < 73 ∧ (18) % 2 = 1)) := by omega
theorem dW_603 (x y : Nat) (hxy : x + 76 ≤ y) : ∀ k : Nat, ¬ ((((y + 12)) = (y) + 3 ∨ ((y) + 7 ≤ ((y + 12)) ∧ ((y + 12)) ≤ (y) + 11)) ∨ (((y + 12)) = (y) + 1 ∧ 61 ≤ (k) ∧ (k) < 73 ∧ (k) % 2 = 1)) := by intros; omega
theorem dW_604 (x y : Nat) (hxy : x + 76 ≤ y) : ¬ ((((y + 1)) = (y) + 3 ∨ ((y) + 7 ≤ ((y + 1)) ∧ ((y + 1)) ≤ (y) + 11)) ∨ (((y + 1)) = (y) + 1 ∧ 61 ≤ (5) ∧ (5) < 73 ∧ (5) % 2 = 1)) := by omega
theorem dW_605 (x y : Nat) (hxy : x + 76 ≤ y) : ∀ k : Nat, k < 60 → ¬ ((((y + 1)) = (y) + 3 ∨ ((y) + 7 ≤ ((y + 1)) ∧ ((y + 1)) ≤ (y) + 11)) ∨ (((y + 1)) = (y) + 1 ∧ 61 ≤ ((73 + k)) ∧ ((73 + k)) < 73 ∧ ((73 + k)) % 2 = 1)) := by intros; omega
theorem dW_606 (x y : Nat) (hxy : x + 76 ≤ y) : ∀ k : Nat, 157 ≤ k → ¬ ((((y + 1)) = (y) + 3 ∨ ((y) + 7 ≤ ((y + 1)) ∧ ((y + 1)) ≤ (y) + 11)) ∨ (((y + 1)) = (y) + 1 ∧ 61 ≤ (k) ∧ (k) < 73 ∧ (k) % 2 = 1)) := by intros; omega
theorem dW_607 (x y : Nat) (hxy : x + 76 ≤ y) : ∀ k : Nat, 7 ≤ k → k < 61 → ¬ ((((y + 2)) = (y) + 3 ∨ ((y) + 7 ≤ ((y + 2)) ∧ ((y + 2)) ≤ (y) + 11)) ∨ (((y + 2)) = (y) + 1 ∧ 61 ≤ (k) ∧ (k) < 73 ∧ (k) % 2 = 1)) := by intros; omega
theorem dW_608 (x y : Nat) (hxy : x + 76 ≤ y) : ∀ j : Nat, j < 6 → ¬ ((((y + 2)) = (y) + 3 ∨ ((y) + 7 ≤ ((y + 2)) ∧ ((y + 2)) ≤ (y) + 11)) ∨ (((y + 2)) = (y) + 1 ∧ 61 ≤ ((61 + 2 * j + 0)) ∧ ((61 + 2 * j + 0)) < 73 ∧ ((61 + 2 * j + 0)) % 2 = 1)) := by intros; omega
theorem dW_609 (x y : Nat) (hxy : x + 76 ≤ y) : ¬ ((((y + 2)) = (y) + 3 ∨ ((y) + 7 ≤ ((y + 2)) ∧ ((y + 2)) ≤ (y) + 11)) ∨ (((y + 2)) = (y) + 1 ∧ 61 ≤ (5) ∧ (5) < 73 ∧ (5) % 2 = 1)) := by omega
theorem dW_610 (x y : Nat) (hxy : x + 76 ≤ y) : ∀ k : Nat, k < 60 → ¬ ((((y + 2)) = (y) + 3 ∨ ((y) + 7 ≤ ((y + 2)) ∧ ((y + 2)) ≤ (y) + 11)) ∨ (((y + 2)) = (y) + 1 ∧ 61 ≤ ((73 + k)) ∧ ((73 + k)) < 73 ∧ ((73 + k)) % 2 = 1)) := by intros; omega
theorem dW_611 (x y : Nat) (hxy : x + 76 ≤ y) : ∀ k : Nat, 157 ≤ k → ¬ ((((y + 2)) = (y) + 3 ∨ ((y) + 7 ≤ ((y + 2)) ∧ ((y + 2)) ≤ (y) + 11)) ∨ (((y + 2)) = (y) + 1 ∧ 61 ≤ (k) ∧ (k) < 73 ∧ (k) % 2 = 1)) := by intros; omega
set_option maxHeartbeats 4000000 in
set_option maxRecDepth 100000 in
theorem lc_wonts {p : Program} {l : Launch} {e : Env} {s : State} {m : MethodId} {below : List Frame} {meth : Method} {c : Code} {b L x y : Nat} {xs : Nat → Int32} {E : zz_E} {Q : State → Prop} (hA : zz_LA p s m c b L xs E x y) (i : Int32) (hi : 0 ≤ i.toInt ∧ i.toInt + 6 ≤ L) (σ : zz_S) (H : Heap) (locs : List Loc) (ls : Array Slot) (hR : zz_RL σ x y) (hQ : zz_RD σ x y) (hP : zz_P E σ H) (hS : va_S (zz_A E) s.heap H locs) (hl : lv_has ls 4 [(0, .ref b), (1, .ref x), (2, .ref y), (3, .int i)])
    (kk : ∀ (σ1 : zz_S) (H1 : Heap) (locs1 : List Loc), zz_RL σ1 x y → zz_RD σ1 x y → zz_P E σ1 H1 → va_S (zz_A E) s.heap H1 locs1 → W p l e room_1 s m #[Value.ref b] below meth c H1 locs1 600000 7302250 Q (F0 m 1384 ls [])) : W p l e room_1 s m #[Value.ref b] below meth c H locs 600000 7302250 Q (F0 m 1230 ls []) := by
  obtain ⟨hx, hb, hml, hown, hts, hX, hbl, hbE, hL, gL, gM, hxy, hK⟩ := hA
  have hbA : ¬ zz_A E b := fun h => absurd (hbE b h) (Nat.not_le.mpr hbl)
  have k_1 : (1 : Int32).toInt = 1 := by decide +kernel
  refine lv_aload_n hx hb dL_law_1230 rfl (lv_at hl 1 rfl) ?_
  refine lv_aload_n hx hb dL_law_1231 rfl (lv_at hl 0 rfl) ?_
  refine lv_iload_n hx hb dL_law_1232 rfl (lv_at hl 3 rfl) ?_
  refine lv_iconst (v := 1) hx hb dL_law_1233 (by decide) ?_
  refine lv_iadd hx hb dL_law_1234 ?_
  refine lv_topi (fun n1 e1 => ?_)
  have f1 : n1.toInt = (i).toInt + (1 : Int32).toInt := zz_addT e1 (by omega) (by omega)
  refine va_sld hx hb hX hbl hbA hS (vp_in_iff.mpr ⟨by omega, by omega⟩) dL_law_1235 ?_
  refine lv_topi (fun v2 u2 => ?_)
  refine zz_callVi (As := [.int v2]) (rest := []) ⟨hx, hb, hml, hown, hts⟩ hK hP hS (c_X8_wonts l E σ x v2 gL hR.1) (cwV 1 hts gL_law_X8_wonts rfl rfl rfl (by decide +kernel) ⟨Nat.le_of_ble_eq_true rfl, Nat.le_of_ble_eq_true rfl⟩) (gL.1) rfl rfl hl.1 rfl (Nat.le_of_ble_eq_true rfl) dL_law_1236 ⟨Nat.le_refl _, Nat.le_refl _⟩ (fun r1 σ1 H locs q1 hP hS => ?_)
  try dsimp only at q1
  obtain ⟨w1, p1⟩ := q1
  have B : ∀ a k : Nat, y ≤ a → a ≤ y + 12 → σ1 a k = σ a k := fun a k h1 h2 => w1 a k ((dW_162 x y hxy) a k h1 h2)
  have hJ1 : zz_IM σ1 y := hR.2.1.far B
  refine lv_pop hx hb dL_law_1239 rfl ?_
  refine lv_aload_n hx hb dL_law_1240 rfl (lv_at hl 2 rfl) ?_
  refine lv_aload_n hx hb dL_law_1241 rfl (lv_at hl 0 rfl) ?_
  refine lv_iload_n hx hb dL_law_1242 rfl (lv_at hl 3 rfl) ?_
  refine lv_iconst (v := 1) hx hb dL_law_1243 (by decide) ?_
  refine lv_iadd hx hb dL_law_1244 ?_
  refine lv_topi (fun n4 e4 => ?_)
  have f4 : n4.toInt = (i).toInt + (1 : Int32).toInt := zz_addT e4 (by omega) (by omega)
  refine va_sld hx hb hX hbl hbA hS (vp_in_iff.mpr ⟨by omega, by omega⟩) dL_law_1245 ?_
  refine lv_topi (fun v5 u5 => ?_)
  have z5 : v5 = v2 := by rw [u5, u2, e4, e1]
  have zt5 := congrArg Int32.toInt z5
  refine zz_callVi (As := [.int v5]) (rest := []) ⟨hx, hb, hml, hown, hts⟩ hK hP hS (c_X9_wonts l E σ1 y v5 gM hJ1) (cwV 1 hts gL_law_X9_wonts rfl rfl rfl (by decide +kernel) ⟨Nat.le_of_ble_eq_true rfl, Nat.le_of_ble_eq_true rfl⟩) (gM.1) rfl rfl hl.1 rfl (Nat.le_of_ble_eq_true rfl) dL_law_1246 ⟨Nat.le_refl _, Nat.le_refl _⟩ (fun r2 σ2 H locs q2 hP hS => ?_)
  try dsimp only at q2
  obtain ⟨w2, p2⟩ := q2
  have A : ∀ a k : Nat, x ≤ a → a < x + 76 → σ2 a k = σ1 a k := fun a k h1 h2 => w2 a k ((dW_594 x y hxy) a k h1 h2)
  obtain ⟨i1, p1⟩ := p1
  obtain ⟨i2, p2⟩ := p2
  try simp only [z5] at p2
  have hRL : zz_RL σ2 x y := hR.soft i1 i2 A B (fun k => w1 (x + 1) k ((dW_169 x y hxy) k)) (fun k hk => w2 (y + 1) k ((dW_595 x y hxy) k hk)) (fun k => w1 (x + 28) k ((dW_165 x y hxy) k)) (w1 x 2 (dW_166 x y hxy)) (fun k => w2 (y + 2) k ((dW_596 x y hxy) k)) (w2 y 2 (dW_597 x y hxy))
  obtain ⟨hqD, hqW, hqK, hqB, hqN, hqC, hqL, hqT, hqP, hqX⟩ := hQ
  obtain ⟨aD, aW, aKD, aKW, aB, aN, aC, aL, aT, aP, aX, aKP, aKX⟩ := zz_aX A
  obtain ⟨bD, bW, bKD, bKW, bB, bN, bC, bL, bT, bP, bX, bKP, bKX⟩ := zz_bM hR.2.1 B
  have rD : zz_DX σ2 (x + 1) = zz_DM σ2 (y + 1) := by rw [aD, zz_DXk (r := x + 1) w1 (dW_170 x y hxy), zz_DMk (a := y + 1) w2 (dW_598 x y hxy), bD, hqD]
  have rB : zz_HX 0 σ2 x = zz_HM σ2 (y + 4) := by rw [aB, zz_HX.eq (f := 0) (x := x) (fun j hj => w1 _ _ ((dW_172 x y hxy) j hj)), zz_HM.eq (a := y + 4) (fun j hj => w2 _ _ ((dW_599 x y hxy) j hj)), bB, hqB]
  have rN : zz_HX 1 σ2 x = zz_HM σ2 (y + 5) := by rw [aN, zz_HX.eq (f := 1) (x := x) (fun j hj => w1 _ _ ((dW_174 x y hxy) j hj)), zz_HM.eq (a := y + 5) (fun j hj => w2 _ _ ((dW_600 x y hxy) j hj)), bN, hqN]
  have rC : zz_CX σ2 x = zz_CM σ2 (y + 6) := by rw [aC, zz_CX.eq (x := x) (fun j hj k hk => w1 _ _ ((dW_176 x y hxy) j hj k hk)), zz_CM.eq (a := y + 6) (fun k hk => w2 _ _ ((dW_601 x y hxy) k hk)), bC, hqC]
  have rL : (σ2 (x + 56) 1).toInt = (σ2 y 18).toInt := by rw [aL, congrArg Int32.toInt (w1 (x + 56) 1 (dW_178 x y hxy)), congrArg Int32.toInt (w2 y 18 (dW_602 x y hxy)), bL, hqL]
  have rT : zz_TV σ2 (x + 56 + 1) = zz_TV σ2 (y + 12) := by rw [aT, zz_TV.eq (a := x + 56 + 1) (b := x + 56 + 1) (fun k _ => w1 _ k ((dW_180 x y hxy) k)), zz_TV.eq (a := y + 12) (b := y + 12) (fun k _ => w2 _ k ((dW_603 x y hxy) k)), bT, hqT]
  have rP : zz_Tp σ2 (x + 1 + 4) (σ2 (x + 1) 9).toInt = zz_Tm σ2 (y + 1) := by rw [aP, zz_Tp.all (a := x + 1 + 4) (b := x + 1 + 4) (congrArg Int32.toInt (w1 (x + 1) 9 (dW_182 x y hxy))) (fun k => w1 _ k ((dW_183 x y hxy) k)), zz_Tm.eq (a := y + 1) (b := y + 1) (w2 (y + 1) 5 (dW_604 x y hxy)) hJ1.1.2.2.2.2.1.2 (fun k hk => w2 (y + 1) (73 + k) ((dW_605 x y hxy) k hk)), bP, hqP]
  have rX : zz_tts (zz_XT σ2 (x + 1)) (zz_MT σ2 (y + 1)) := by rw [aX, zz_XT.all (r := x + 1) (fun a ha k => w1 a k ((dW_186 x y hxy) a ha k)), zz_MT.hi (a := y + 1) (b := y + 1) (fun k hk => w2 (y + 1) k ((dW_606 x y hxy) k hk)), bX]; exact hqX
  have rK : (σ2 x 2).toInt = 0 ∨ (zz_DX σ2 (x + 28) = zz_DM σ2 (y + 2) ∧ zz_PX 0 σ2 (x + 28) = zz_PM 0 σ2 (y + 2) ∧ zz_Tp σ2 (x + 28 + 4) (σ2 (x + 28) 9).toInt = zz_Tm σ2 (y + 2) ∧ zz_tts (zz_XT σ2 (x + 28)) (zz_MT σ2 (y + 2))) := hqK.elim (fun q => Or.inl ((congrArg Int32.toInt ((A x 2 (by omega) (by omega)).trans (w1 x 2 (dW_166 x y hxy)))).trans q)) (fun q => Or.inr ⟨by rw [aKD, zz_DXk (r := x + 28) w1 (dW_188 x y hxy), zz_DMk (a := y + 2) w2 (dW_607 x y hxy), bKD, q.1], by rw [aKW, zz_PXk (f := 0) (r := x + 28) w1 (dW_190 x y hxy), zz_PMk (f := 0) (a := y + 2) w2 (dW_608 x y hxy), bKW, q.2.1], by rw [aKP, zz_Tp.all (a := x + 28 + 4) (b := x + 28 + 4) (congrArg Int32.toInt (w1 (x + 28) 9 (dW_192 x y hxy))) (fun k => w1 _ k ((dW_193 x y hxy) k)), zz_Tm.eq (a := y + 2) (b := y + 2) (w2 (y + 2) 5 (dW_609 x y hxy)) hJ1.2.1.2.2.2.2.1.2 (fun k hk => w2 (y + 2) (73 + k) ((dW_610 x y hxy) k hk)), bKP, q.2.2.1], by rw [aKX, zz_XT.all (r := x + 28) (fun a ha k => w1 a k ((dW_196 x y hxy) a ha k)), zz_MT.hi (a := y + 2) (b := y + 2) (fun k hk => w2 (y + 2) k ((dW_611 x y hxy) k hk)), bKX]; exact q.2.2.2⟩)
  have eB : zz_HX 0 σ x = zz_HM σ1 (y + 4) := hqB.trans bB.symm
  have eN : zz_HX 1 σ x = zz_HM σ1 (y + 5) := hqN.trans bN.symm
  have eC : zz_CX σ x = zz_CM σ1 (y + 6) := hqC.trans bC.symm
  have eW : zz_PX 0 σ (x + 1) = zz_PM 0 σ1 (y + 1) := hqW.trans bW.symm
  have gc6 : (σ (x + 1) 6).toInt = (σ1 (y + 1) 3).toInt := hR.2.2.1.2.2.2.2.1.trans (congrArg Int32.toInt (B (y + 1) 3 (by omega) (by omega))).symm
  simp only [eB, eN, eC, eW, gc6] at p1
  have rB2 : zz_PX 0 σ2 (x + 1) = zz_PM 0 σ2 (y + 1) ∧ r1.toInt = r2.toInt := by
    rcases p1 with ⟨a1, a2, ea⟩ | ⟨a1, a2, a3, ea⟩ | ⟨a1, a2, a3, ea⟩
    all_goals rcases p2 with ⟨b1, b2, eb⟩ | ⟨b1, b2, b3, eb⟩ | ⟨b1, b2, b3, eb⟩
    all_goals first | (exfalso; omega) | (have hq9 : r1.toInt = r2.toInt := a3.trans b3.symm; exact ⟨by rw [aW, ea, eb, hq9], hq9⟩) | (exact ⟨by rw [aW, ea, eb], by omega⟩)
  have rW := rB2.1
  have hQ2 : zz_RD σ2 x y := ⟨rD, rW, rK, rB, rN, rC, rL, rT, rP, rX⟩
  refine lv_pop hx hb dL_law_1249 rfl ?_
  refine lv_goto (tgt := 1384) hx hb dL_law_1250 (by decide) ?_
  exact kk _ _ _ hRL hQ2 hP hS
theorem gL_law_X8_judge : GoodIn wsL_law (wsV RL 145 RX8 yX8_judge wzX8_judge) := wz_coL bm_935 (wz_coL bm_936 (wz_coL bm_937 (wz_coL bm_2 (wz_inL bm_938))))
theorem gL_law_X9_judge : GoodIn wsL_law (wsV RL 148 RX9 yX9_judge wzX9_judge) := wz_coL bm_939 (wz_coL bm_940 (wz_coL bm_941 (wz_coL bm_5 (wz_inL bm_942))))
set_option maxHeartbeats 4000000 in
set_option maxRecDepth 100000 in
theorem lc_judge {p : Program} {l : Launch} {e : Env} {s : State} {m : MethodId} {below : List Frame} {meth : Method} {c : Code} {b L x y : Nat} {xs : Nat → Int32} {E : zz_E} {Q : State → Prop} (hA : zz_LA p s m c b L xs E x y) (i : Int32) (hi : 0 ≤ i.toInt ∧ i.toInt + 6 ≤ L) (σ : zz_S) (H : Heap) (locs : List Loc) (ls : Array Slot) (hR : zz_RL σ x y) (hQ : zz_RD σ x y) (hP : zz_P E σ H) (hS : va_S (zz_A E) s.heap H locs) (hl : lv_has ls 4 [(0, .ref b), (1, .ref x), (2, .ref y), (3, .int i)])
    (kk : ∀ (σ1 : zz_S) (H1 : Heap) (locs1 : List Loc), zz_RL σ1 x y → zz_RD σ1 x y → zz_P E σ1 H1 → va_S (zz_A E) s.heap H1 locs1 → W p l e room_1 s m #[Value.ref b] below meth c H1 locs1 600000 7302250 Q (F0 m 1384 ls [])) : W p l e room_1 s m #[Value.ref b] below meth c H locs 600000 7302250 Q (F0 m 1253 ls []) := by
  obtain ⟨hx, hb, hml, hown, hts, hX, hbl, hbE, hL, gL, gM, hxy, hK⟩ := hA
  have hbA : ¬ zz_A E b := fun h => absurd (hbE b h) (Nat.not_le.mpr hbl)
  have k_1 : (1 : Int32).toInt = 1 := by decide +kernel
  refine lv_aload_n hx hb dL_law_1253 rfl (lv_at hl 1 rfl) ?_
  refine lv_aload_n hx hb dL_law_1254 rfl (lv_at hl 0 rfl) ?_
  refine lv_iload_n hx hb dL_law_1255 rfl (lv_at hl 3 rfl) ?_
  refine lv_iconst (v := 1) hx hb dL_law_1256 (by decide) ?_
  refine lv_iadd hx hb dL_law_1257 ?_
  refine lv_topi (fun n1 e1 => ?_)
  have f1 : n1.toInt = (i).toInt + (1 : Int32).toInt := zz_addT e1 (by omega) (by omega)
  refine va_sld hx hb hX hbl hbA hS (vp_in_iff.mpr ⟨by omega, by omega⟩) dL_law_1258 ?_
  refine lv_topi (fun v2 u2 => ?_)
  refine zz_callVi (As := [.int v2]) (rest := []) ⟨hx, hb, hml, hown, hts⟩ hK hP hS (c_X8_judge l E σ x v2 gL hR.1 (zy_KK σ x y) (zy_KX hR hQ)) (cwV 1 hts gL_law_X8_judge rfl rfl rfl (by decide +kernel) ⟨Nat.le_of_ble_eq_true rfl, Nat.le_of_ble_eq_true rfl⟩) (gL.1) rfl rfl hl.1 rfl (Nat.le_of_ble_eq_true rfl) dL_law_1259 ⟨Nat.le_refl _, Nat.le_refl _⟩ (fun r1 σ1 H locs q1 hP hS => ?_)
  try dsimp only at q1
  obtain ⟨w1, p1⟩ := q1
  have B : ∀ a k : Nat, y ≤ a → a ≤ y + 12 → σ1 a k = σ a k := fun a k h1 h2 => w1 a k ((dW_45 x y hxy) a k h1 h2)
  have hJ1 : zz_IM σ1 y := hR.2.1.far B
  refine lv_pop hx hb dL_law_1262 rfl ?_
  refine lv_aload_n hx hb dL_law_1263 rfl (lv_at hl 2 rfl) ?_
  refine lv_aload_n hx hb dL_law_1264 rfl (lv_at hl 0 rfl) ?_
  refine lv_iload_n hx hb dL_law_1265 rfl (lv_at hl 3 rfl) ?_
  refine lv_iconst (v := 1) hx hb dL_law_1266 (by decide) ?_
  refine lv_iadd hx hb dL_law_1267 ?_
  refine lv_topi (fun n4 e4 => ?_)
  have f4 : n4.toInt = (i).toInt + (1 : Int32).toInt := zz_addT e4 (by omega) (by omega)
  refine va_sld hx hb hX hbl hbA hS (vp_in_iff.mpr ⟨by omega, by omega⟩) dL_law_1268 ?_
  refine lv_topi (fun v5 u5 => ?_)
  have z5 : v5 = v2 := by rw [u5, u2, e4, e1]
  have zt5 := congrArg Int32.toInt z5
  refine zz_callVi (As := [.int v5]) (rest := []) ⟨hx, hb, hml, hown, hts⟩ hK hP hS (c_X9_judge l E σ1 y v5 gM hJ1 (zy_KK σ x y) (zy_KY hR hQ B)) (cwV 1 hts gL_law_X9_judge rfl rfl rfl (by decide +kernel) ⟨Nat.le_of_ble_eq_true rfl, Nat.le_of_ble_eq_true rfl⟩) (gM.1) rfl rfl hl.1 rfl (Nat.le_of_ble_eq_true rfl) dL_law_1269 ⟨Nat.le_refl _, Nat.le_refl _⟩ (fun r2 σ2 H locs q2 hP hS => ?_)
  try dsimp only at q2
  obtain ⟨w2, p2⟩ := q2
  have A : ∀ a k : Nat, x ≤ a → a < x + 76 → σ2 a k = σ1 a k := fun a k h1 h2 => w2 a k ((dW_46 x y hxy) a k h1 h2)
  have i1 : zz_IX σ1 x := hR.1.soft (w1.mono (dW_47 x y hxy))
  have i2 : zz_IM σ2 y := hJ1.soft (w2.mono (dW_48 x y hxy))
  try simp only [z5] at p2
  have hRL : zz_RL σ2 x y := hR.soft i1 i2 A B (fun k => w1 (x + 1) k ((dW_54 x y hxy) k)) (fun k hk => w2 (y + 1) k ((dW_49 x y hxy) k hk)) (fun k => w1 (x + 28) k ((dW_50 x y hxy) k)) (w1 x 2 (dW_51 x y hxy)) (fun k => w2 (y + 2) k ((dW_52 x y hxy) k)) (w2 y 2 (dW_53 x y hxy))
  obtain ⟨hqD, hqW, hqK, hqB, hqN, hqC, hqL, hqT, hqP, hqX⟩ := hQ
  obtain ⟨aD, aW, aKD, aKW, aB, aN, aC, aL, aT, aP, aX, aKP, aKX⟩ := zz_aX A
  obtain ⟨bD, bW, bKD, bKW, bB, bN, bC, bL, bT, bP, bX, bKP, bKX⟩ := zz_bM hR.2.1 B
  have rD : zz_DX σ2 (x + 1) = zz_DM σ2 (y + 1) := by rw [aD, zz_DXk (r := x + 1) w1 (dW_55 x y hxy), zz_DMk (a := y + 1) w2 (dW_56 x y hxy), bD, hqD]
  have rW : zz_PX 0 σ2 (x + 1) = zz_PM 0 σ2 (y + 1) := by rw [aW, zz_PXk (f := 0) (r := x + 1) w1 (dW_57 x y hxy), zz_PMk (f := 0) (a := y + 1) w2 (dW_58 x y hxy), bW, hqW]
  have rB : zz_HX 0 σ2 x = zz_HM σ2 (y + 4) := by rw [aB, zz_HX.eq (f := 0) (x := x) (fun j hj => w1 _ _ ((dW_59 x y hxy) j hj)), zz_HM.eq (a := y + 4) (fun j hj => w2 _ _ ((dW_60 x y hxy) j hj)), bB, hqB]
  have rN : zz_HX 1 σ2 x = zz_HM σ2 (y + 5) := by rw [aN, zz_HX.eq (f := 1) (x := x) (fun j hj => w1 _ _ ((dW_59 x y hxy) j hj)), zz_HM.eq (a := y + 5) (fun j hj => w2 _ _ ((dW_61 x y hxy) j hj)), bN, hqN]
  have rC : zz_CX σ2 x = zz_CM σ2 (y + 6) := by rw [aC, zz_CX.eq (x := x) (fun j hj k hk => w1 _ _ ((dW_62 x y hxy) j hj k hk)), zz_CM.eq (a := y + 6) (fun k hk => w2 _ _ ((dW_63 x y hxy) k hk)), bC, hqC]
  have rL : (σ2 (x + 56) 1).toInt = (σ2 y 18).toInt := by rw [aL, congrArg Int32.toInt (w1 (x + 56) 1 (dW_64 x y hxy)), congrArg Int32.toInt (w2 y 18 (dW_53 x y hxy)), bL, hqL]
  have rT : zz_TV σ2 (x + 56 + 1) = zz_TV σ2 (y + 12) := by rw [aT, zz_TV.eq (a := x + 56 + 1) (b := x + 56 + 1) (fun k _ => w1 _ k ((dW_65 x y hxy) k)), zz_TV.eq (a := y + 12) (b := y + 12) (fun k _ => w2 _ k ((dW_66 x y hxy) k)), bT, hqT]
  have rP : zz_Tp σ2 (x + 1 + 4) (σ2 (x + 1) 9).toInt = zz_Tm σ2 (y + 1) := by rw [aP, zz_Tp.all (a := x + 1 + 4) (b := x + 1 + 4) (congrArg Int32.toInt (w1 (x + 1) 9 (dW_67 x y hxy))) (fun k => w1 _ k ((dW_68 x y hxy) k)), zz_Tm.eq (a := y + 1) (b := y + 1) (w2 (y + 1) 5 (dW_69 x y hxy)) hJ1.1.2.2.2.2.1.2 (fun k hk => w2 (y + 1) (73 + k) ((dW_70 x y hxy) k hk)), bP, hqP]
  have rX : zz_tts (zz_XT σ2 (x + 1)) (zz_MT σ2 (y + 1)) := by rw [aX, zz_XT.all (r := x + 1) (fun a ha k => w1 a k ((dW_71 x y hxy) a ha k)), zz_MT.hi (a := y + 1) (b := y + 1) (fun k hk => w2 (y + 1) k ((dW_72 x y hxy) k hk)), bX]; exact hqX
  have rK : (σ2 x 2).toInt = 0 ∨ (zz_DX σ2 (x + 28) = zz_DM σ2 (y + 2) ∧ zz_PX 0 σ2 (x + 28) = zz_PM 0 σ2 (y + 2) ∧ zz_Tp σ2 (x + 28 + 4) (σ2 (x + 28) 9).toInt = zz_Tm σ2 (y + 2) ∧ zz_tts (zz_XT σ2 (x + 28)) (zz_MT σ2 (y + 2))) := hqK.elim (fun q => Or.inl ((congrArg Int32.toInt ((A x 2 (by omega) (by omega)).trans (w1 x 2 (dW_51 x y hxy)))).trans q)) (fun q => Or.inr ⟨by rw [aKD, zz_DXk (r := x + 28) w1 (dW_73 x y hxy), zz_DMk (a := y + 2) w2 (dW_74 x y hxy), bKD, q.1], by rw [aKW, zz_PXk (f := 0) (r := x + 28) w1 (dW_75 x y hxy), zz_PMk (f := 0) (a := y + 2) w2 (dW_76 x y hxy), bKW, q.2.1], by rw [aKP, zz_Tp.all (a := x + 28 + 4) (b := x + 28 + 4) (congrArg Int32.toInt (w1 (x + 28) 9 (dW_77 x y hxy))) (fun k => w1 _ k ((dW_78 x y hxy) k)), zz_Tm.eq (a := y + 2) (b := y + 2) (w2 (y + 2) 5 (dW_79 x y hxy)) hJ1.2.1.2.2.2.2.1.2 (fun k hk => w2 (y + 2) (73 + k) ((dW_80 x y hxy) k hk)), bKP, q.2.2.1], by rw [aKX, zz_XT.all (r := x + 28) (fun a ha k => w1 a k ((dW_81 x y hxy) a ha k)), zz_MT.hi (a := y + 2) (b := y + 2) (fun k hk => w2 (y + 2) k ((dW_82 x y hxy) k hk)), bKX]; exact q.2.2.2⟩)
  have hQ2 : zz_RD σ2 x y := ⟨rD, rW, rK, rB, rN, rC, rL, rT, rP, rX⟩
  refine lv_pop hx hb dL_law_1272 rfl ?_
  refine lv_goto (tgt := 1384) hx hb dL_law_1273 (by decide) ?_
  exact kk _ _ _ hRL hQ2 hP hS
theorem gL_law_X8_image : GoodIn wsL_law (wsV RL 149 RX8 yX8_image wzX8_image) := wz_coL bm_943 (wz_coL bm_944 (wz_coL bm_945 (wz_coL bm_2 (wz_inL bm_946))))
theorem gL_law_X9_image : GoodIn wsL_law (wsV RL 153 RX9 yX9_image wzX9_image) := wz_coL bm_970 (wz_coL bm_971 (wz_coL bm_972 (wz_coL bm_5 (wz_inL bm_973))))
theorem dW_612 (x y : Nat) (hxy : x + 76 ≤ y) : ∀ a k : Nat, y ≤ a → a ≤ y + 12 → ¬ ((a) = (x) + 24 ∨ (a) = (x) + 27 ∨ ((x) + 58 ≤ (a) ∧ (a) ≤ (x) + 67) ∨ (a) = (x) ∨ ((x) + 28 ≤ (a) ∧ (a) < (x) + 55)) := by intros; omega
theorem dW_613 (x y : Nat) (hxy : x + 76 ≤ y) : ∀ a k : Nat, x ≤ a → a < x + 76 → ¬ (((a) = (y) + 3 ∨ ((y) + 7 ≤ (a) ∧ (a) ≤ (y) + 11)) ∨ ((a) = (y) ∧ (k) = 2) ∨ (a) = (y) + 2) := by intros; omega
theorem dW_614 (x y : Nat) (hxy : x + 76 ≤ y) : ∀ j : Nat, j < 9 → ∀ k : Nat, k < 6 → ¬ (((x + 1 + 6 + 1 * j)) = (x) + 24 ∨ ((x + 1 + 6 + 1 * j)) = (x) + 27 ∨ ((x) + 58 ≤ ((x + 1 + 6 + 1 * j)) ∧ ((x + 1 + 6 + 1 * j)) ≤ (x) + 67) ∨ ((x + 1 + 6 + 1 * j)) = (x) ∨ ((x) + 28 ≤ ((x + 1 + 6 + 1 * j)) ∧ ((x + 1 + 6 + 1 * j)) < (x) + 55)) := by intros; omega
theorem dW_615 (x y : Nat) (hxy : x + 76 ≤ y) : ∀ k : Nat, 7 ≤ k → k < 61 → ¬ ((((y + 1)) = (y) + 3 ∨ ((y) + 7 ≤ ((y + 1)) ∧ ((y + 1)) ≤ (y) + 11)) ∨ (((y + 1)) = (y) ∧ (k) = 2) ∨ ((y + 1)) = (y) + 2) := by intros; omega
theorem dW_616 (x y : Nat) (hxy : x + 76 ≤ y) : ∀ j : Nat, j < 6 → ¬ (((x + 1 + 15 + 1 * j)) = (x) + 24 ∨ ((x + 1 + 15 + 1 * j)) = (x) + 27 ∨ ((x) + 58 ≤ ((x + 1 + 15 + 1 * j)) ∧ ((x + 1 + 15 + 1 * j)) ≤ (x) + 67) ∨ ((x + 1 + 15 + 1 * j)) = (x) ∨ ((x) + 28 ≤ ((x + 1 + 15 + 1 * j)) ∧ ((x + 1 + 15 + 1 * j)) < (x) + 55)) := by intros; omega
theorem dW_617 (x y : Nat) (hxy : x + 76 ≤ y) : ∀ j : Nat, j < 6 → ¬ ((((y + 1)) = (y) + 3 ∨ ((y) + 7 ≤ ((y + 1)) ∧ ((y + 1)) ≤ (y) + 11)) ∨ (((y + 1)) = (y) ∧ ((61 + 2 * j + 0)) = 2) ∨ ((y + 1)) = (y) + 2) := by intros; omega
theorem dW_618 (x y : Nat) (hxy : x + 76 ≤ y) : ∀ j : Nat, j < 4 → ¬ (((x + 68 + 2 * j)) = (x) + 24 ∨ ((x + 68 + 2 * j)) = (x) + 27 ∨ ((x) + 58 ≤ ((x + 68 + 2 * j)) ∧ ((x + 68 + 2 * j)) ≤ (x) + 67) ∨ ((x + 68 + 2 * j)) = (x) ∨ ((x) + 28 ≤ ((x + 68 + 2 * j)) ∧ ((x + 68 + 2 * j)) < (x) + 55)) := by intros; omega
theorem dW_619 (x y : Nat) (hxy : x + 76 ≤ y) : ∀ j : Nat, j < 4 → ¬ ((((y + 4)) = (y) + 3 ∨ ((y) + 7 ≤ ((y + 4)) ∧ ((y + 4)) ≤ (y) + 11)) ∨ (((y + 4)) = (y) ∧ (j) = 2) ∨ ((y + 4)) = (y) + 2) := by intros; omega
theorem dW_620 (x y : Nat) (hxy : x + 76 ≤ y) : ∀ j : Nat, j < 4 → ¬ ((((y + 5)) = (y) + 3 ∨ ((y) + 7 ≤ ((y + 5)) ∧ ((y + 5)) ≤ (y) + 11)) ∨ (((y + 5)) = (y) ∧ (j) = 2) ∨ ((y + 5)) = (y) + 2) := by intros; omega
theorem dW_621 (x y : Nat) (hxy : x + 76 ≤ y) : ∀ j : Nat, j < 4 → ∀ k : Nat, k < 24 → ¬ (((x + 68 + 2 * j + 1)) = (x) + 24 ∨ ((x + 68 + 2 * j + 1)) = (x) + 27 ∨ ((x) + 58 ≤ ((x + 68 + 2 * j + 1)) ∧ ((x + 68 + 2 * j + 1)) ≤ (x) + 67) ∨ ((x + 68 + 2 * j + 1)) = (x) ∨ ((x) + 28 ≤ ((x + 68 + 2 * j + 1)) ∧ ((x + 68 + 2 * j + 1)) < (x) + 55)) := by intros; omega
theorem dW_622 (x y : Nat) (hxy : x + 76 ≤ y) : ∀ k : Nat, k < 96 → ¬ ((((y + 6)) = (y) + 3 ∨ ((y) + 7 ≤ ((y + 6)) ∧ ((y + 6)) ≤ (y) + 11)) ∨ (((y + 6)) = (y) ∧ (k) = 2) ∨ ((y + 6)) = (y) + 2) := by intros; omega
theorem dW_623 (x y : Nat) (hxy : x + 76 ≤ y) : ¬ (((x + 56)) = (x) + 24 ∨ ((x + 56)) = (x) + 27 ∨ ((x) + 58 ≤ ((x + 56)) ∧ ((x + 56)) ≤ (x) + 67) ∨ ((x + 56)) = (x) ∨ ((x) + 28 ≤ ((x + 56)) ∧ ((x + 56)) < (x) + 55)) := by omega
theorem dW_624 (x y : Nat) (hxy : x + 76 ≤ y) : ¬ (((y) = (y) + 3 ∨ ((y) + 7 ≤ (y) ∧ (y) ≤ (y) + 11)) ∨ ((y) = (y) ∧ (18) = 2) ∨ (y) = (y) + 2) := by omega
theorem dW_625 (x y : Nat) (hxy : x + 76 ≤ y) : ∀ k : Nat, ¬ (((x + 56 + 1)) = (x) + 24 ∨ ((x + 56 + 1)) = (x) + 27 ∨ ((x) + 58 ≤ ((x + 56 + 1)) ∧ ((x + 56 + 1)) ≤ (x) + 67) ∨ ((x + 56 + 1)) = (x) ∨ ((x) + 28 ≤ ((x + 56 + 1)) ∧ ((x + 56 + 1)) < (x) + 55)) := by intros; omega
theorem dW_626 (x y : Nat) (hxy : x + 76 ≤ y) : ∀ k : Nat, ¬ ((((y + 12)) = (y) + 3 ∨ ((y) + 7 ≤ ((y + 12)) ∧ ((y + 12)) ≤ (y) + 11)) ∨ (((y + 12)) = (y) ∧ (k) = 2) ∨ ((y + 12)) = (y) + 2) := by intros; omega
theorem dW_627 (x y : Nat) (hxy : x + 76 ≤ y) : ¬ (((x + 1)) = (x) + 24 ∨ ((x + 1)) = (x) + 27 ∨ ((x) + 58 ≤ ((x + 1)) ∧ ((x + 1)) ≤ (x) + 67) ∨ ((x + 1)) = (x) ∨ ((x) + 28 ≤ ((x + 1)) ∧ ((x + 1)) < (x) + 55)) := by omega
theorem dW_628 (x y : Nat) (hxy : x + 76 ≤ y) : ∀ k : Nat, ¬ (((x + 1 + 4)) = (x) + 24 ∨ ((x + 1 + 4)) = (x) + 27 ∨ ((x) + 58 ≤ ((x + 1 + 4)) ∧ ((x + 1 + 4)) ≤ (x) + 67) ∨ ((x + 1 + 4)) = (x) ∨ ((x) + 28 ≤ ((x + 1 + 4)) ∧ ((x + 1 + 4)) < (x) + 55)) := by intros; omega
theorem dW_629 (x y : Nat) (hxy : x + 76 ≤ y) : ¬ ((((y + 1)) = (y) + 3 ∨ ((y) + 7 ≤ ((y + 1)) ∧ ((y + 1)) ≤ (y) + 11)) ∨ (((y + 1)) = (y) ∧ (5) = 2) ∨ ((y + 1)) = (y) + 2) := by omega
theorem dW_630 (x y : Nat) (hxy : x + 76 ≤ y) : ∀ k : Nat, k < 60 → ¬ ((((y + 1)) = (y) + 3 ∨ ((y) + 7 ≤ ((y + 1)) ∧ ((y + 1)) ≤ (y) + 11)) ∨ (((y + 1)) = (y) ∧ ((73 + k)) = 2) ∨ ((y + 1)) = (y) + 2) := by intros; omega
theorem dW_631 (x y : Nat) (hxy : x + 76 ≤ y) : ∀ a : Nat, (a = x + 1 + 21 ∨ a = x + 1 + 22 ∨ a = x + 1 + 24 ∨ a = x + 1 + 25) → ∀ k : Nat, ¬ ((a) = (x) + 24 ∨ (a) = (x) + 27 ∨ ((x) + 58 ≤ (a) ∧ (a) ≤ (x) + 67) ∨ (a) = (x) ∨ ((x) + 28 ≤ (a) ∧ (a) < (x) + 55)) := by intros; omega
theorem dW_632 (x y : Nat) (hxy : x + 76 ≤ y) : ∀ k : Nat, 157 ≤ k → ¬ ((((y + 1)) = (y) + 3 ∨ ((y) + 7 ≤ ((y + 1)) ∧ ((y + 1)) ≤ (y) + 11)) ∨ (((y + 1)) = (y) ∧ (k) = 2) ∨ ((y + 1)) = (y) + 2) := by intros; omega
set_option maxHeartbeats 4000000 in
set_option maxRecDepth 100000 in
theorem lc_image {p : Program} {l : Launch} {e : Env} {s : State} {m : MethodId} {below : List Frame} {meth : Method} {c : Code} {b L x y : Nat} {xs : Nat → Int32} {E : zz_E} {Q : State → Prop} (hA : zz_LA p s m c b L xs E x y) (i : Int32) (hi : 0 ≤ i.toInt ∧ i.toInt + 6 ≤ L) (σ : zz_S) (H : Heap) (locs : List Loc) (ls : Array Slot) (hR : zz_RL σ x y) (hQ : zz_RD σ x y) (hP : zz_P E σ H) (hS : va_S (zz_A E) s.heap H locs) (hl : lv_has ls 4 [(0, .ref b), (1, .ref x), (2, .ref y), (3, .int i)])
    (kk : ∀ (σ1 : zz_S) (H1 : Heap) (locs1 : List Loc), zz_RL σ1 x y → zz_RD σ1 x y → zz_P E σ1 H1 → va_S (zz_A E) s.heap H1 locs1 → W p l e room_1 s m #[Value.ref b] below meth c H1 locs1 600000 7302250 Q (F0 m 1384 ls [])) : W p l e room_1 s m #[Value.ref b] below meth c H locs 600000 7302250 Q (F0 m 1276 ls []) := by
  obtain ⟨hx, hb, hml, hown, hts, hX, hbl, hbE, hL, gL, gM, hxy, hK⟩ := hA
  have hbA : ¬ zz_A E b := fun h => absurd (hbE b h) (Nat.not_le.mpr hbl)
  refine lv_aload_n hx hb dL_law_1276 rfl (lv_at hl 1 rfl) ?_
  refine zz_callVi (As := []) (rest := []) ⟨hx, hb, hml, hown, hts⟩ hK hP hS (c_X8_image l E σ x gL hR.1) (cwV 0 hts gL_law_X8_image rfl rfl rfl (by decide +kernel) ⟨Nat.le_of_ble_eq_true rfl, Nat.le_of_ble_eq_true rfl⟩) (gL.1) rfl rfl hl.1 rfl (Nat.le_of_ble_eq_true rfl) dL_law_1277 ⟨Nat.le_refl _, Nat.le_refl _⟩ (fun r1 σ1 H locs q1 hP hS => ?_)
  try dsimp only at q1
  obtain ⟨w1, p1⟩ := q1
  have B : ∀ a k : Nat, y ≤ a → a ≤ y + 12 → σ1 a k = σ a k := fun a k h1 h2 => w1 a k ((dW_612 x y hxy) a k h1 h2)
  have hJ1 : zz_IM σ1 y := hR.2.1.far B
  refine lv_pop hx hb dL_law_1280 rfl ?_
  refine lv_aload_n hx hb dL_law_1281 rfl (lv_at hl 2 rfl) ?_
  refine zz_callVi (As := []) (rest := []) ⟨hx, hb, hml, hown, hts⟩ hK hP hS (c_X9_image l E σ1 y gM hJ1) (cwV 0 hts gL_law_X9_image rfl rfl rfl (by decide +kernel) ⟨Nat.le_of_ble_eq_true rfl, Nat.le_of_ble_eq_true rfl⟩) (gM.1) rfl rfl hl.1 rfl (Nat.le_of_ble_eq_true rfl) dL_law_1282 ⟨Nat.le_refl _, Nat.le_refl _⟩ (fun r2 σ2 H locs q2 hP hS => ?_)
  try dsimp only at q2
  obtain ⟨w2, p2⟩ := q2
  have A : ∀ a k : Nat, x ≤ a → a < x + 76 → σ2 a k = σ1 a k := fun a k h1 h2 => w2 a k ((dW_613 x y hxy) a k h1 h2)
  obtain ⟨i1, p1⟩ := p1
  obtain ⟨i2, p2⟩ := p2
  obtain ⟨hqD, hqW, hqK, hqB, hqN, hqC, hqL, hqT, hqP, hqX⟩ := hQ
  obtain ⟨aD, aW, aKD, aKW, aB, aN, aC, aL, aT, aP, aX, aKP, aKX⟩ := zz_aX A
  obtain ⟨bD, bW, bKD, bKW, bB, bN, bC, bL, bT, bP, bX, bKP, bKX⟩ := zz_bM hR.2.1 B
  obtain ⟨-, -, hr, hk, hm⟩ := hR
  obtain ⟨pr1, pi1, pa⟩ := p1
  obtain ⟨pr2, pi2, pb⟩ := p2
  have hs : zz_RR σ2 (x + 28) (y + 2) := ⟨by rw [A (x + 28) 0 (by omega) (by omega), pa.1, pb 0 (by omega), B (y + 1) 0 (by omega) (by omega)]; exact hr.1, by rw [A (x + 28) 1 (by omega) (by omega), pa.2.1, pb 4 (by omega), B (y + 1) 4 (by omega) (by omega)]; exact hr.2.1, by rw [A (x + 28) 2 (by omega) (by omega), pa.2.2.1, pb 1 (by omega), B (y + 1) 1 (by omega) (by omega)]; exact hr.2.2.1, by rw [A (x + 28) 4 (by omega) (by omega), pa.2.2.2.1, pb 2 (by omega), B (y + 1) 2 (by omega) (by omega)]; exact hr.2.2.2.1, by rw [A (x + 28) 6 (by omega) (by omega), pa.2.2.2.2.1, pb 3 (by omega), B (y + 1) 3 (by omega) (by omega)]; exact hr.2.2.2.2.1, by rw [A (x + 28) 9 (by omega) (by omega), pa.2.2.2.2.2.1, pb 5 (by omega), B (y + 1) 5 (by omega) (by omega)]; exact hr.2.2.2.2.2.1, by rw [A (x + 28) 11 (by omega) (by omega), pa.2.2.2.2.2.2.1, pb 6 (by omega), B (y + 1) 6 (by omega) (by omega)]; exact hr.2.2.2.2.2.2⟩
  have hn : zz_RR σ2 (x + 1) (y + 1) := hr.keep7 (fun k _ => (A _ k (by omega) (by omega)).trans (w1 (x + 1) k (by first | omega | (dsimp only; omega)))) (fun k _ => (w2 (y + 1) k (by first | omega | (dsimp only; omega))).trans (B _ k (by omega) (by omega)))
  have hm2 : (σ2 x 2).toInt = (σ2 y 2).toInt := by rw [A x 2 (by omega) (by omega), pi1, pi2, B y 2 (by omega) (by omega), zz_ext hm]
  have hRL : zz_RL σ2 x y := ⟨i1.far A, i2, hn, Or.inr hs, hm2⟩
  have rD : zz_DX σ2 (x + 1) = zz_DM σ2 (y + 1) := by rw [aD, zz_DXk (r := x + 1) w1 (dW_614 x y hxy), zz_DMk (a := y + 1) w2 (dW_615 x y hxy), bD, hqD]
  have rW : zz_PX 0 σ2 (x + 1) = zz_PM 0 σ2 (y + 1) := by rw [aW, zz_PXk (f := 0) (r := x + 1) w1 (dW_616 x y hxy), zz_PMk (f := 0) (a := y + 1) w2 (dW_617 x y hxy), bW, hqW]
  have rB : zz_HX 0 σ2 x = zz_HM σ2 (y + 4) := by rw [aB, zz_HX.eq (f := 0) (x := x) (fun j hj => w1 _ _ ((dW_618 x y hxy) j hj)), zz_HM.eq (a := y + 4) (fun j hj => w2 _ _ ((dW_619 x y hxy) j hj)), bB, hqB]
  have rN : zz_HX 1 σ2 x = zz_HM σ2 (y + 5) := by rw [aN, zz_HX.eq (f := 1) (x := x) (fun j hj => w1 _ _ ((dW_618 x y hxy) j hj)), zz_HM.eq (a := y + 5) (fun j hj => w2 _ _ ((dW_620 x y hxy) j hj)), bN, hqN]
  have rC : zz_CX σ2 x = zz_CM σ2 (y + 6) := by rw [aC, zz_CX.eq (x := x) (fun j hj k hk => w1 _ _ ((dW_621 x y hxy) j hj k hk)), zz_CM.eq (a := y + 6) (fun k hk => w2 _ _ ((dW_622 x y hxy) k hk)), bC, hqC]
  have rL : (σ2 (x + 56) 1).toInt = (σ2 y 18).toInt := by rw [aL, congrArg Int32.toInt (w1 (x + 56) 1 (dW_623 x y hxy)), congrArg Int32.toInt (w2 y 18 (dW_624 x y hxy)), bL, hqL]
  have rT : zz_TV σ2 (x + 56 + 1) = zz_TV σ2 (y + 12) := by rw [aT, zz_TV.eq (a := x + 56 + 1) (b := x + 56 + 1) (fun k _ => w1 _ k ((dW_625 x y hxy) k)), zz_TV.eq (a := y + 12) (b := y + 12) (fun k _ => w2 _ k ((dW_626 x y hxy) k)), bT, hqT]
  have rP : zz_Tp σ2 (x + 1 + 4) (σ2 (x + 1) 9).toInt = zz_Tm σ2 (y + 1) := by rw [aP, zz_Tp.all (a := x + 1 + 4) (b := x + 1 + 4) (congrArg Int32.toInt (w1 (x + 1) 9 (dW_627 x y hxy))) (fun k => w1 _ k ((dW_628 x y hxy) k)), zz_Tm.eq (a := y + 1) (b := y + 1) (w2 (y + 1) 5 (dW_629 x y hxy)) hJ1.1.2.2.2.2.1.2 (fun k hk => w2 (y + 1) (73 + k) ((dW_630 x y hxy) k hk)), bP, hqP]
  have rX : zz_tts (zz_XT σ2 (x + 1)) (zz_MT σ2 (y + 1)) := by rw [aX, zz_XT.all (r := x + 1) (fun a ha k => w1 a k ((dW_631 x y hxy) a ha k)), zz_MT.hi (a := y + 1) (b := y + 1) (fun k hk => w2 (y + 1) k ((dW_632 x y hxy) k hk)), bX]; exact hqX
  have hQ2 : zz_RD σ2 x y := ⟨rD, rW, Or.inr ⟨by rw [aKD, pa.2.2.2.2.2.2.2.1, zz_DM.eq (fun k _ h2 => pb k (by omega)), bD, hqD], by rw [aKW, pa.2.2.2.2.2.2.2.2.1, zz_PM.eq (fun j hj => pb _ (by omega)), bW, hqW], by rw [aKP, pa.2.2.2.2.2.2.2.2.2.2.2, zz_Tm.eq (pb _ (by omega)) hJ1.1.2.2.2.2.1.2 (fun k hk => pb _ (by omega)), bP, hqP], by rw [aKX, pa.2.2.2.2.2.2.2.2.2.2.1, zz_MT.eq (fun k _ h2 => pb k h2) (fun u hu => (hJ1.1.2.2.2.2.2.2.2 u hu).1.2), bX]; exact hqX⟩, rB, rN, rC, rL, rT, rP, rX⟩
  refine lv_pop hx hb dL_law_1285 rfl ?_
  refine lv_goto (tgt := 1384) hx hb dL_law_1286 (by decide) ?_
  exact kk _ _ _ hRL hQ2 hP hS
theorem gL_law_X8_restore : GoodIn wsL_law (wsV RL 154 RX8 yX8_restore wzX8_restore) := wz_coL bm_978 (wz_coL bm_979 (wz_coL bm_980 (wz_coL bm_2 (wz_inL bm_981))))
theorem gL_law_X9_restore : GoodIn wsL_law (wsV RL 157 RX9 yX9_restore wzX9_restore) := wz_coL bm_982 (wz_coL bm_983 (wz_coL bm_984 (wz_coL bm_5 (wz_inL bm_985))))
theorem dW_633 (x y : Nat) (hxy : x + 76 ≤ y) : ∀ a k : Nat, y ≤ a → a ≤ y + 12 → ¬ ((a) = (x) + 24 ∨ (a) = (x) + 27 ∨ ((x) + 58 ≤ (a) ∧ (a) ≤ (x) + 67) ∨ ((x) + 1 ≤ (a) ∧ (a) < (x) + 28)) := by intros; omega
theorem dW_634 (x y : Nat) (hxy : x + 76 ≤ y) : ∀ a k : Nat, x ≤ a → a < x + 76 → ¬ (((a) = (y) + 3 ∨ ((y) + 7 ≤ (a) ∧ (a) ≤ (y) + 11)) ∨ (a) = (y) + 1) := by intros; omega
theorem dW_635 (x y : Nat) (hxy : x + 76 ≤ y) : ∀ j : Nat, j < 4 → ¬ (((x + 68 + 2 * j)) = (x) + 24 ∨ ((x + 68 + 2 * j)) = (x) + 27 ∨ ((x) + 58 ≤ ((x + 68 + 2 * j)) ∧ ((x + 68 + 2 * j)) ≤ (x) + 67) ∨ ((x) + 1 ≤ ((x + 68 + 2 * j)) ∧ ((x + 68 + 2 * j)) < (x) + 28)) := by intros; omega
theorem dW_636 (x y : Nat) (hxy : x + 76 ≤ y) : ∀ j : Nat, j < 4 → ¬ ((((y + 4)) = (y) + 3 ∨ ((y) + 7 ≤ ((y + 4)) ∧ ((y + 4)) ≤ (y) + 11)) ∨ ((y + 4)) = (y) + 1) := by intros; omega
theorem dW_637 (x y : Nat) (hxy : x + 76 ≤ y) : ∀ j : Nat, j < 4 → ¬ ((((y + 5)) = (y) + 3 ∨ ((y) + 7 ≤ ((y + 5)) ∧ ((y + 5)) ≤ (y) + 11)) ∨ ((y + 5)) = (y) + 1) := by intros; omega
theorem dW_638 (x y : Nat) (hxy : x + 76 ≤ y) : ∀ j : Nat, j < 4 → ∀ k : Nat, k < 24 → ¬ (((x + 68 + 2 * j + 1)) = (x) + 24 ∨ ((x + 68 + 2 * j + 1)) = (x) + 27 ∨ ((x) + 58 ≤ ((x + 68 + 2 * j + 1)) ∧ ((x + 68 + 2 * j + 1)) ≤ (x) + 67) ∨ ((x) + 1 ≤ ((x + 68 + 2 * j + 1)) ∧ ((x + 68 + 2 * j + 1)) < (x) + 28)) := by intros; omega
theorem dW_639 (x y : Nat) (hxy : x + 76 ≤ y) : ∀ k : Nat, k < 96 → ¬ ((((y + 6)) = (y) + 3 ∨ ((y) + 7 ≤ ((y + 6)) ∧ ((y + 6)) ≤ (y) + 11)) ∨ ((y + 6)) = (y) + 1) := by intros; omega
theorem dW_640 (x y : Nat) (hxy : x + 76 ≤ y) : ¬ (((x + 56)) = (x) + 24 ∨ ((x + 56)) = (x) + 27 ∨ ((x) + 58 ≤ ((x + 56)) ∧ ((x + 56)) ≤ (x) + 67) ∨ ((x) + 1 ≤ ((x + 56)) ∧ ((x + 56)) < (x) + 28)) := by omega
theorem dW_641 (x y : Nat) (hxy : x + 76 ≤ y) : ¬ (((y) = (y) + 3 ∨ ((y) + 7 ≤ (y) ∧ (y) ≤ (y) + 11)) ∨ (y) = (y) + 1) := by omega
theorem dW_642 (x y : Nat) (hxy : x + 76 ≤ y) : ∀ k : Nat, ¬ (((x + 56 + 1)) = (x) + 24 ∨ ((x + 56 + 1)) = (x) + 27 ∨ ((x) + 58 ≤ ((x + 56 + 1)) ∧ ((x + 56 + 1)) ≤ (x) + 67) ∨ ((x) + 1 ≤ ((x + 56 + 1)) ∧ ((x + 56 + 1)) < (x) + 28)) := by intros; omega
theorem dW_643 (x y : Nat) (hxy : x + 76 ≤ y) : ∀ k : Nat, ¬ ((((y + 12)) = (y) + 3 ∨ ((y) + 7 ≤ ((y + 12)) ∧ ((y + 12)) ≤ (y) + 11)) ∨ ((y + 12)) = (y) + 1) := by intros; omega
theorem dW_644 (x y : Nat) (hxy : x + 76 ≤ y) : ∀ j : Nat, j < 9 → ∀ k : Nat, k < 6 → ¬ (((x + 28 + 6 + 1 * j)) = (x) + 24 ∨ ((x + 28 + 6 + 1 * j)) = (x) + 27 ∨ ((x) + 58 ≤ ((x + 28 + 6 + 1 * j)) ∧ ((x + 28 + 6 + 1 * j)) ≤ (x) + 67) ∨ ((x) + 1 ≤ ((x + 28 + 6 + 1 * j)) ∧ ((x + 28 + 6 + 1 * j)) < (x) + 28)) := by intros; omega
theorem dW_645 (x y : Nat) (hxy : x + 76 ≤ y) : ∀ k : Nat, 7 ≤ k → k < 61 → ¬ ((((y + 2)) = (y) + 3 ∨ ((y) + 7 ≤ ((y + 2)) ∧ ((y + 2)) ≤ (y) + 11)) ∨ ((y + 2)) = (y) + 1) := by intros; omega
theorem dW_646 (x y : Nat) (hxy : x + 76 ≤ y) : ∀ j : Nat, j < 6 → ¬ (((x + 28 + 15 + 1 * j)) = (x) + 24 ∨ ((x + 28 + 15 + 1 * j)) = (x) + 27 ∨ ((x) + 58 ≤ ((x + 28 + 15 + 1 * j)) ∧ ((x + 28 + 15 + 1 * j)) ≤ (x) + 67) ∨ ((x) + 1 ≤ ((x + 28 + 15 + 1 * j)) ∧ ((x + 28 + 15 + 1 * j)) < (x) + 28)) := by intros; omega
theorem dW_647 (x y : Nat) (hxy : x + 76 ≤ y) : ∀ j : Nat, j < 6 → ¬ ((((y + 2)) = (y) + 3 ∨ ((y) + 7 ≤ ((y + 2)) ∧ ((y + 2)) ≤ (y) + 11)) ∨ ((y + 2)) = (y) + 1) := by intros; omega
theorem dW_648 (x y : Nat) (hxy : x + 76 ≤ y) : ¬ (((x + 28)) = (x) + 24 ∨ ((x + 28)) = (x) + 27 ∨ ((x) + 58 ≤ ((x + 28)) ∧ ((x + 28)) ≤ (x) + 67) ∨ ((x) + 1 ≤ ((x + 28)) ∧ ((x + 28)) < (x) + 28)) := by omega
theorem dW_649 (x y : Nat) (hxy : x + 76 ≤ y) : ∀ k : Nat, ¬ (((x + 28 + 4)) = (x) + 24 ∨ ((x + 28 + 4)) = (x) + 27 ∨ ((x) + 58 ≤ ((x + 28 + 4)) ∧ ((x + 28 + 4)) ≤ (x) + 67) ∨ ((x) + 1 ≤ ((x + 28 + 4)) ∧ ((x + 28 + 4)) < (x) + 28)) := by intros; omega
theorem dW_650 (x y : Nat) (hxy : x + 76 ≤ y) : ¬ ((((y + 2)) = (y) + 3 ∨ ((y) + 7 ≤ ((y + 2)) ∧ ((y + 2)) ≤ (y) + 11)) ∨ ((y + 2)) = (y) + 1) := by omega
theorem dW_651 (x y : Nat) (hxy : x + 76 ≤ y) : ∀ k : Nat, k < 60 → ¬ ((((y + 2)) = (y) + 3 ∨ ((y) + 7 ≤ ((y + 2)) ∧ ((y + 2)) ≤ (y) + 11)) ∨ ((y + 2)) = (y) + 1) := by intros; omega
theorem dW_652 (x y : Nat) (hxy : x + 76 ≤ y) : ∀ a : Nat, (a = x + 28 + 21 ∨ a = x + 28 + 22 ∨ a = x + 28 + 24 ∨ a = x + 28 + 25) → ∀ k : Nat, ¬ ((a) = (x) + 24 ∨ (a) = (x) + 27 ∨ ((x) + 58 ≤ (a) ∧ (a) ≤ (x) + 67) ∨ ((x) + 1 ≤ (a) ∧ (a) < (x) + 28)) := by intros; omega
theorem dW_653 (x y : Nat) (hxy : x + 76 ≤ y) : ∀ k : Nat, 157 ≤ k → ¬ ((((y + 2)) = (y) + 3 ∨ ((y) + 7 ≤ ((y + 2)) ∧ ((y + 2)) ≤ (y) + 11)) ∨ ((y + 2)) = (y) + 1) := by intros; omega
set_option maxHeartbeats 4000000 in
set_option maxRecDepth 100000 in
theorem lc_restore {p : Program} {l : Launch} {e : Env} {s : State} {m : MethodId} {below : List Frame} {meth : Method} {c : Code} {b L x y : Nat} {xs : Nat → Int32} {E : zz_E} {Q : State → Prop} (hA : zz_LA p s m c b L xs E x y) (i : Int32) (hi : 0 ≤ i.toInt ∧ i.toInt + 6 ≤ L) (σ : zz_S) (H : Heap) (locs : List Loc) (ls : Array Slot) (hR : zz_RL σ x y) (hQ : zz_RD σ x y) (hP : zz_P E σ H) (hS : va_S (zz_A E) s.heap H locs) (hl : lv_has ls 4 [(0, .ref b), (1, .ref x), (2, .ref y), (3, .int i)])
    (kk : ∀ (σ1 : zz_S) (H1 : Heap) (locs1 : List Loc), zz_RL σ1 x y → zz_RD σ1 x y → zz_P E σ1 H1 → va_S (zz_A E) s.heap H1 locs1 → W p l e room_1 s m #[Value.ref b] below meth c H1 locs1 600000 7302250 Q (F0 m 1384 ls [])) : W p l e room_1 s m #[Value.ref b] below meth c H locs 600000 7302250 Q (F0 m 1289 ls []) := by
  obtain ⟨hx, hb, hml, hown, hts, hX, hbl, hbE, hL, gL, gM, hxy, hK⟩ := hA
  have hbA : ¬ zz_A E b := fun h => absurd (hbE b h) (Nat.not_le.mpr hbl)
  refine lv_aload_n hx hb dL_law_1289 rfl (lv_at hl 1 rfl) ?_
  refine zz_callVi (As := []) (rest := []) ⟨hx, hb, hml, hown, hts⟩ hK hP hS (c_X8_restore l E σ x gL hR.1) (cwV 0 hts gL_law_X8_restore rfl rfl rfl (by decide +kernel) ⟨Nat.le_of_ble_eq_true rfl, Nat.le_of_ble_eq_true rfl⟩) (gL.1) rfl rfl hl.1 rfl (Nat.le_of_ble_eq_true rfl) dL_law_1290 ⟨Nat.le_refl _, Nat.le_refl _⟩ (fun r1 σ1 H locs q1 hP hS => ?_)
  try dsimp only at q1
  obtain ⟨w1, p1⟩ := q1
  have B : ∀ a k : Nat, y ≤ a → a ≤ y + 12 → σ1 a k = σ a k := fun a k h1 h2 => w1 a k ((dW_633 x y hxy) a k h1 h2)
  have hJ1 : zz_IM σ1 y := hR.2.1.far B
  refine lv_pop hx hb dL_law_1293 rfl ?_
  refine lv_aload_n hx hb dL_law_1294 rfl (lv_at hl 2 rfl) ?_
  refine zz_callVi (As := []) (rest := []) ⟨hx, hb, hml, hown, hts⟩ hK hP hS (c_X9_restore l E σ1 y gM hJ1) (cwV 0 hts gL_law_X9_restore rfl rfl rfl (by decide +kernel) ⟨Nat.le_of_ble_eq_true rfl, Nat.le_of_ble_eq_true rfl⟩) (gM.1) rfl rfl hl.1 rfl (Nat.le_of_ble_eq_true rfl) dL_law_1295 ⟨Nat.le_refl _, Nat.le_refl _⟩ (fun r2 σ2 H locs q2 hP hS => ?_)
  try dsimp only at q2
  obtain ⟨w2, p2⟩ := q2
  have A : ∀ a k : Nat, x ≤ a → a < x + 76 → σ2 a k = σ1 a k := fun a k h1 h2 => w2 a k ((dW_634 x y hxy) a k h1 h2)
  obtain ⟨i1, p1⟩ := p1
  obtain ⟨i2, p2⟩ := p2
  obtain ⟨hqD, hqW, hqK, hqB, hqN, hqC, hqL, hqT, hqP, hqX⟩ := hQ
  obtain ⟨aD, aW, aKD, aKW, aB, aN, aC, aL, aT, aP, aX, aKP, aKX⟩ := zz_aX A
  obtain ⟨bD, bW, bKD, bKW, bB, bN, bC, bL, bT, bP, bX, bKP, bKX⟩ := zz_bM hR.2.1 B
  obtain ⟨-, -, hr, hk, hm⟩ := hR
  have e0 : σ2 x 2 = σ x 2 := (A x 2 (by omega) (by omega)).trans (w1 x 2 (by first | omega | (dsimp only; omega)))
  have e1 : σ2 y 2 = σ y 2 := (w2 y 2 (by first | omega | (dsimp only; omega))).trans (B y 2 (by omega) (by omega))
  have e2 := congrArg Int32.toInt (B y 2 (by omega) (by omega))
  have hk2 : (σ2 x 2).toInt = 0 ∨ zz_RR σ2 (x + 28) (y + 2) := by rw [e0]; exact hk.imp id (fun q => q.keep7 (fun k _ => (A _ k (by omega) (by omega)).trans (w1 (x + 28) k (by first | omega | (dsimp only; omega)))) (fun k _ => (w2 (y + 2) k (by first | omega | (dsimp only; omega))).trans (B _ k (by omega) (by omega))))
  have hn : zz_RR σ2 (x + 1) (y + 1) := by
    rcases p1 with ⟨a1, -, a3⟩ | ⟨a1, -, a3⟩
    · rcases p2 with ⟨b1, -, b3⟩ | ⟨b1, -, b3⟩
      · exact ⟨by rw [A (x + 1) 0 (by omega) (by omega), a3.1, b3 0, B (y + 1) 0 (by omega) (by omega)]; exact hr.1, by rw [A (x + 1) 1 (by omega) (by omega), a3.2.1, b3 4, B (y + 1) 4 (by omega) (by omega)]; exact hr.2.1, by rw [A (x + 1) 2 (by omega) (by omega), a3.2.2.1, b3 1, B (y + 1) 1 (by omega) (by omega)]; exact hr.2.2.1, by rw [A (x + 1) 4 (by omega) (by omega), a3.2.2.2.1, b3 2, B (y + 1) 2 (by omega) (by omega)]; exact hr.2.2.2.1, by rw [A (x + 1) 6 (by omega) (by omega), a3.2.2.2.2.1, b3 3, B (y + 1) 3 (by omega) (by omega)]; exact hr.2.2.2.2.1, by rw [A (x + 1) 9 (by omega) (by omega), a3.2.2.2.2.2.1, b3 5, B (y + 1) 5 (by omega) (by omega)]; exact hr.2.2.2.2.2.1, by rw [A (x + 1) 11 (by omega) (by omega), a3.2.2.2.2.2.2.1, b3 6, B (y + 1) 6 (by omega) (by omega)]; exact hr.2.2.2.2.2.2⟩
      · exact absurd a1 (by omega)
    · rcases p2 with ⟨b1, -, b3⟩ | ⟨b1, -, b3⟩
      · exact absurd b1 (by omega)
      · rcases hk with q | q
        · exact absurd q a1
        · exact ⟨by rw [A (x + 1) 0 (by omega) (by omega), a3.1, b3 0 (by omega), B (y + 2) 0 (by omega) (by omega)]; exact q.1, by rw [A (x + 1) 1 (by omega) (by omega), a3.2.1, b3 4 (by omega), B (y + 2) 4 (by omega) (by omega)]; exact q.2.1, by rw [A (x + 1) 2 (by omega) (by omega), a3.2.2.1, b3 1 (by omega), B (y + 2) 1 (by omega) (by omega)]; exact q.2.2.1, by rw [A (x + 1) 4 (by omega) (by omega), a3.2.2.2.1, b3 2 (by omega), B (y + 2) 2 (by omega) (by omega)]; exact q.2.2.2.1, by rw [A (x + 1) 6 (by omega) (by omega), a3.2.2.2.2.1, b3 3 (by omega), B (y + 2) 3 (by omega) (by omega)]; exact q.2.2.2.2.1, by rw [A (x + 1) 9 (by omega) (by omega), a3.2.2.2.2.2.1, b3 5 (by omega), B (y + 2) 5 (by omega) (by omega)]; exact q.2.2.2.2.2.1, by rw [A (x + 1) 11 (by omega) (by omega), a3.2.2.2.2.2.2.1, b3 6 (by omega), B (y + 2) 6 (by omega) (by omega)]; exact q.2.2.2.2.2.2⟩
  have hRL : zz_RL σ2 x y := ⟨i1.far A, i2, hn, hk2, by rw [e0, e1]; exact hm⟩
  have rB : zz_HX 0 σ2 x = zz_HM σ2 (y + 4) := by rw [aB, zz_HX.eq (f := 0) (x := x) (fun j hj => w1 _ _ ((dW_635 x y hxy) j hj)), zz_HM.eq (a := y + 4) (fun j hj => w2 _ _ ((dW_636 x y hxy) j hj)), bB, hqB]
  have rN : zz_HX 1 σ2 x = zz_HM σ2 (y + 5) := by rw [aN, zz_HX.eq (f := 1) (x := x) (fun j hj => w1 _ _ ((dW_635 x y hxy) j hj)), zz_HM.eq (a := y + 5) (fun j hj => w2 _ _ ((dW_637 x y hxy) j hj)), bN, hqN]
  have rC : zz_CX σ2 x = zz_CM σ2 (y + 6) := by rw [aC, zz_CX.eq (x := x) (fun j hj k hk => w1 _ _ ((dW_638 x y hxy) j hj k hk)), zz_CM.eq (a := y + 6) (fun k hk => w2 _ _ ((dW_639 x y hxy) k hk)), bC, hqC]
  have rL : (σ2 (x + 56) 1).toInt = (σ2 y 18).toInt := by rw [aL, congrArg Int32.toInt (w1 (x + 56) 1 (dW_640 x y hxy)), congrArg Int32.toInt (w2 y 18 (dW_641 x y hxy)), bL, hqL]
  have rT : zz_TV σ2 (x + 56 + 1) = zz_TV σ2 (y + 12) := by rw [aT, zz_TV.eq (a := x + 56 + 1) (b := x + 56 + 1) (fun k _ => w1 _ k ((dW_642 x y hxy) k)), zz_TV.eq (a := y + 12) (b := y + 12) (fun k _ => w2 _ k ((dW_643 x y hxy) k)), bT, hqT]
  have rDW : zz_DX σ2 (x + 1) = zz_DM σ2 (y + 1) ∧ zz_PX 0 σ2 (x + 1) = zz_PM 0 σ2 (y + 1) ∧ zz_Tp σ2 (x + 1 + 4) (σ2 (x + 1) 9).toInt = zz_Tm σ2 (y + 1) ∧ zz_tts (zz_XT σ2 (x + 1)) (zz_MT σ2 (y + 1)) := by
    rcases p1 with ⟨a1, -, a3⟩ | ⟨a1, -, a3⟩
    · rcases p2 with ⟨b1, -, b3⟩ | ⟨b1, -, b3⟩
      · exact ⟨by rw [aD, a3.2.2.2.2.2.2.2.1, zz_DM.eq (fun k _ _ => b3 k), bD, hqD], by rw [aW, a3.2.2.2.2.2.2.2.2.1, zz_PM.eq (fun j _ => b3 _), bW, hqW], by rw [aP, a3.2.2.2.2.2.2.2.2.2.2.2, zz_Tm.eq (b3 5) hJ1.1.2.2.2.2.1.2 (fun k _ => b3 _), bP, hqP], by rw [aX, a3.2.2.2.2.2.2.2.2.2.2.1, zz_MT.hi (fun k _ => b3 k), bX]; exact hqX⟩
      · exact absurd a1 (by omega)
    · rcases p2 with ⟨b1, -, b3⟩ | ⟨b1, -, b3⟩
      · exact absurd b1 (by omega)
      · rcases hqK with q | q
        · exact absurd q a1
        · exact ⟨by rw [aD, a3.2.2.2.2.2.2.2.1, zz_DM.eq (fun k _ _ => b3 k (by omega)), bKD, q.1], by rw [aW, a3.2.2.2.2.2.2.2.2.1, zz_PM.eq (fun j hj => b3 _ (by omega)), bKW, q.2.1], by rw [aP, a3.2.2.2.2.2.2.2.2.2.2.2, zz_Tm.eq (b3 5 (by omega)) hJ1.2.1.2.2.2.2.1.2 (fun k hk => b3 _ (by omega)), bKP, q.2.2.1], by rw [aX, a3.2.2.2.2.2.2.2.2.2.2.1, zz_MT.eq (fun k _ h2 => b3 k h2) (fun u hu => (hJ1.2.1.2.2.2.2.2.2.2 u hu).1.2), bKX]; exact q.2.2.2⟩
  have rK : (σ2 x 2).toInt = 0 ∨ (zz_DX σ2 (x + 28) = zz_DM σ2 (y + 2) ∧ zz_PX 0 σ2 (x + 28) = zz_PM 0 σ2 (y + 2) ∧ zz_Tp σ2 (x + 28 + 4) (σ2 (x + 28) 9).toInt = zz_Tm σ2 (y + 2) ∧ zz_tts (zz_XT σ2 (x + 28)) (zz_MT σ2 (y + 2))) := by
    rw [e0]
    exact hqK.imp id (fun q => ⟨by rw [aKD, zz_DXk (r := x + 28) w1 (dW_644 x y hxy), zz_DMk (a := y + 2) w2 (dW_645 x y hxy), bKD, q.1], by rw [aKW, zz_PXk (f := 0) (r := x + 28) w1 (dW_646 x y hxy), zz_PMk (f := 0) (a := y + 2) w2 (dW_647 x y hxy), bKW, q.2.1], by rw [aKP, zz_Tp.all (a := x + 28 + 4) (b := x + 28 + 4) (congrArg Int32.toInt (w1 (x + 28) 9 (dW_648 x y hxy))) (fun k => w1 _ k ((dW_649 x y hxy) k)), zz_Tm.eq (a := y + 2) (b := y + 2) (w2 (y + 2) 5 (dW_650 x y hxy)) hJ1.2.1.2.2.2.2.1.2 (fun k hk => w2 (y + 2) (73 + k) ((dW_651 x y hxy) k hk)), bKP, q.2.2.1], by rw [aKX, zz_XT.all (r := x + 28) (fun a ha k => w1 a k ((dW_652 x y hxy) a ha k)), zz_MT.hi (a := y + 2) (b := y + 2) (fun k hk => w2 (y + 2) k ((dW_653 x y hxy) k hk)), bKX]; exact q.2.2.2⟩)
  have hQ2 : zz_RD σ2 x y := ⟨rDW.1, rDW.2.1, rK, rB, rN, rC, rL, rT, rDW.2.2.1, rDW.2.2.2⟩
  refine lv_pop hx hb dL_law_1298 rfl ?_
  refine lv_goto (tgt := 1384) hx hb dL_law_1299 (by decide) ?_
  exact kk _ _ _ hRL hQ2 hP hS
theorem gL_law_X8_tell : GoodIn wsL_law (wsV RL 158 RX8 yX8_tell wzX8_tell) := wz_coL bm_986 (wz_coL bm_987 (wz_coL bm_988 (wz_coL bm_2 (wz_inL bm_989))))
theorem gL_law_X9_tell : GoodIn wsL_law (wsV RL 161 RX9 yX9_tell wzX9_tell) := wz_coL bm_992 (wz_coL bm_993 (wz_coL bm_994 (wz_coL bm_5 (wz_inL bm_995))))
theorem dW_654 (x y : Nat) (hxy : x + 76 ≤ y) : ∀ a k : Nat, y ≤ a → a ≤ y + 12 → ¬ ((a) = (x) + 24 ∨ (a) = (x) + 27 ∨ ((x) + 58 ≤ (a) ∧ (a) ≤ (x) + 67) ∨ ((a) = (x) + 1 ∧ (k) = 11) ∨ (a) = (x) + 6) := by intros; omega
theorem dW_655 (x y : Nat) (hxy : x + 76 ≤ y) : ∀ a k : Nat, x ≤ a → a < x + 76 → ¬ (((a) = (y) + 3 ∨ ((y) + 7 ≤ (a) ∧ (a) ≤ (y) + 11)) ∨ ((a) = (y) + 1 ∧ ((k) = 6 ∨ (133 ≤ (k) ∧ (k) < 157)))) := by intros; omega
theorem dW_656 (x y : Nat) (hxy : x + 76 ≤ y) : ∀ k : Nat, ¬ (((x + 28)) = (x) + 24 ∨ ((x + 28)) = (x) + 27 ∨ ((x) + 58 ≤ ((x + 28)) ∧ ((x + 28)) ≤ (x) + 67) ∨ (((x + 28)) = (x) + 1 ∧ (k) = 11) ∨ ((x + 28)) = (x) + 6) := by intros; omega
theorem dW_657 (x y : Nat) (hxy : x + 76 ≤ y) : ¬ ((x) = (x) + 24 ∨ (x) = (x) + 27 ∨ ((x) + 58 ≤ (x) ∧ (x) ≤ (x) + 67) ∨ ((x) = (x) + 1 ∧ (2) = 11) ∨ (x) = (x) + 6) := by omega
theorem dW_658 (x y : Nat) (hxy : x + 76 ≤ y) : ∀ k : Nat, ¬ ((((y + 2)) = (y) + 3 ∨ ((y) + 7 ≤ ((y + 2)) ∧ ((y + 2)) ≤ (y) + 11)) ∨ (((y + 2)) = (y) + 1 ∧ ((k) = 6 ∨ (133 ≤ (k) ∧ (k) < 157)))) := by intros; omega
theorem dW_659 (x y : Nat) (hxy : x + 76 ≤ y) : ¬ (((y) = (y) + 3 ∨ ((y) + 7 ≤ (y) ∧ (y) ≤ (y) + 11)) ∨ ((y) = (y) + 1 ∧ ((2) = 6 ∨ (133 ≤ (2) ∧ (2) < 157)))) := by omega
theorem dW_660 (x y : Nat) (hxy : x + 76 ≤ y) : ¬ (((x + 1)) = (x) + 24 ∨ ((x + 1)) = (x) + 27 ∨ ((x) + 58 ≤ ((x + 1)) ∧ ((x + 1)) ≤ (x) + 67) ∨ (((x + 1)) = (x) + 1 ∧ (0) = 11) ∨ ((x + 1)) = (x) + 6) := by omega
theorem dW_661 (x y : Nat) (hxy : x + 76 ≤ y) : ¬ ((((y + 1)) = (y) + 3 ∨ ((y) + 7 ≤ ((y + 1)) ∧ ((y + 1)) ≤ (y) + 11)) ∨ (((y + 1)) = (y) + 1 ∧ ((0) = 6 ∨ (133 ≤ (0) ∧ (0) < 157)))) := by omega
theorem dW_662 (x y : Nat) (hxy : x + 76 ≤ y) : ¬ (((x + 1)) = (x) + 24 ∨ ((x + 1)) = (x) + 27 ∨ ((x) + 58 ≤ ((x + 1)) ∧ ((x + 1)) ≤ (x) + 67) ∨ (((x + 1)) = (x) + 1 ∧ (1) = 11) ∨ ((x + 1)) = (x) + 6) := by omega
theorem dW_663 (x y : Nat) (hxy : x + 76 ≤ y) : ¬ ((((y + 1)) = (y) + 3 ∨ ((y) + 7 ≤ ((y + 1)) ∧ ((y + 1)) ≤ (y) + 11)) ∨ (((y + 1)) = (y) + 1 ∧ ((4) = 6 ∨ (133 ≤ (4) ∧ (4) < 157)))) := by omega
theorem dW_664 (x y : Nat) (hxy : x + 76 ≤ y) : ¬ (((x + 1)) = (x) + 24 ∨ ((x + 1)) = (x) + 27 ∨ ((x) + 58 ≤ ((x + 1)) ∧ ((x + 1)) ≤ (x) + 67) ∨ (((x + 1)) = (x) + 1 ∧ (2) = 11) ∨ ((x + 1)) = (x) + 6) := by omega
theorem dW_665 (x y : Nat) (hxy : x + 76 ≤ y) : ¬ ((((y + 1)) = (y) + 3 ∨ ((y) + 7 ≤ ((y + 1)) ∧ ((y + 1)) ≤ (y) + 11)) ∨ (((y + 1)) = (y) + 1 ∧ ((1) = 6 ∨ (133 ≤ (1) ∧ (1) < 157)))) := by omega
theorem dW_666 (x y : Nat) (hxy : x + 76 ≤ y) : ¬ (((x + 1)) = (x) + 24 ∨ ((x + 1)) = (x) + 27 ∨ ((x) + 58 ≤ ((x + 1)) ∧ ((x + 1)) ≤ (x) + 67) ∨ (((x + 1)) = (x) + 1 ∧ (4) = 11) ∨ ((x + 1)) = (x) + 6) := by omega
theorem dW_667 (x y : Nat) (hxy : x + 76 ≤ y) : ¬ ((((y + 1)) = (y) + 3 ∨ ((y) + 7 ≤ ((y + 1)) ∧ ((y + 1)) ≤ (y) + 11)) ∨ (((y + 1)) = (y) + 1 ∧ ((2) = 6 ∨ (133 ≤ (2) ∧ (2) < 157)))) := by omega
theorem dW_668 (x y : Nat) (hxy : x + 76 ≤ y) : ¬ (((x + 1)) = (x) + 24 ∨ ((x + 1)) = (x) + 27 ∨ ((x) + 58 ≤ ((x + 1)) ∧ ((x + 1)) ≤ (x) + 67) ∨ (((x + 1)) = (x) + 1 ∧ (6) = 11) ∨ ((x + 1)) = (x) + 6) := by omega
theorem dW_669 (x y : Nat) (hxy : x + 76 ≤ y) : ¬ ((((y + 1)) = (y) + 3 ∨ ((y) + 7 ≤ ((y + 1)) ∧ ((y + 1)) ≤ (y) + 11)) ∨ (((y + 1)) = (y) + 1 ∧ ((3) = 6 ∨ (133 ≤ (3) ∧ (3) < 157)))) := by omega
theorem dW_670 (x y : Nat) (hxy : x + 76 ≤ y) : ¬ (((x + 1)) = (x) + 24 ∨ ((x + 1)) = (x) + 27 ∨ ((x) + 58 ≤ ((x + 1)) ∧ ((x + 1)) ≤ (x) + 67) ∨ (((x + 1)) = (x) + 1 ∧ (9) = 11) ∨ ((x + 1)) = (x) + 6) := by omega
theorem dW_671 (x y : Nat) (hxy : x + 76 ≤ y) : ¬ ((((y + 1)) = (y) + 3 ∨ ((y) + 7 ≤ ((y + 1)) ∧ ((y + 1)) ≤ (y) + 11)) ∨ (((y + 1)) = (y) + 1 ∧ ((5) = 6 ∨ (133 ≤ (5) ∧ (5) < 157)))) := by omega
theorem dW_672 (x y : Nat) (hxy : x + 76 ≤ y) : ∀ j : Nat, j < 9 → ∀ k : Nat, k < 6 → ¬ (((x + 1 + 6 + 1 * j)) = (x) + 24 ∨ ((x + 1 + 6 + 1 * j)) = (x) + 27 ∨ ((x) + 58 ≤ ((x + 1 + 6 + 1 * j)) ∧ ((x + 1 + 6 + 1 * j)) ≤ (x) + 67) ∨ (((x + 1 + 6 + 1 * j)) = (x) + 1 ∧ (k) = 11) ∨ ((x + 1 + 6 + 1 * j)) = (x) + 6) := by intros; omega
theorem dW_673 (x y : Nat) (hxy : x + 76 ≤ y) : ∀ k : Nat, 7 ≤ k → k < 61 → ¬ ((((y + 1)) = (y) + 3 ∨ ((y) + 7 ≤ ((y + 1)) ∧ ((y + 1)) ≤ (y) + 11)) ∨ (((y + 1)) = (y) + 1 ∧ ((k) = 6 ∨ (133 ≤ (k) ∧ (k) < 157)))) := by intros; omega
theorem dW_674 (x y : Nat) (hxy : x + 76 ≤ y) : ∀ j : Nat, j < 6 → ¬ (((x + 1 + 15 + 1 * j)) = (x) + 24 ∨ ((x + 1 + 15 + 1 * j)) = (x) + 27 ∨ ((x) + 58 ≤ ((x + 1 + 15 + 1 * j)) ∧ ((x + 1 + 15 + 1 * j)) ≤ (x) + 67) ∨ (((x + 1 + 15 + 1 * j)) = (x) + 1 ∧ (0) = 11) ∨ ((x + 1 + 15 + 1 * j)) = (x) + 6) := by intros; omega
theorem dW_675 (x y : Nat) (hxy : x + 76 ≤ y) : ∀ j : Nat, j < 6 → ¬ ((((y + 1)) = (y) + 3 ∨ ((y) + 7 ≤ ((y + 1)) ∧ ((y + 1)) ≤ (y) + 11)) ∨ (((y + 1)) = (y) + 1 ∧ (((61 + 2 * j + 0)) = 6 ∨ (133 ≤ ((61 + 2 * j + 0)) ∧ ((61 + 2 * j + 0)) < 157)))) := by intros; omega
theorem dW_676 (x y : Nat) (hxy : x + 76 ≤ y) : ∀ j : Nat, j < 4 → ¬ (((x + 68 + 2 * j)) = (x) + 24 ∨ ((x + 68 + 2 * j)) = (x) + 27 ∨ ((x) + 58 ≤ ((x + 68 + 2 * j)) ∧ ((x + 68 + 2 * j)) ≤ (x) + 67) ∨ (((x + 68 + 2 * j)) = (x) + 1 ∧ (0) = 11) ∨ ((x + 68 + 2 * j)) = (x) + 6) := by intros; omega
theorem dW_677 (x y : Nat) (hxy : x + 76 ≤ y) : ∀ j : Nat, j < 4 → ¬ ((((y + 4)) = (y) + 3 ∨ ((y) + 7 ≤ ((y + 4)) ∧ ((y + 4)) ≤ (y) + 11)) ∨ (((y + 4)) = (y) + 1 ∧ ((j) = 6 ∨ (133 ≤ (j) ∧ (j) < 157)))) := by intros; omega
theorem dW_678 (x y : Nat) (hxy : x + 76 ≤ y) : ∀ j : Nat, j < 4 → ¬ (((x + 68 + 2 * j)) = (x) + 24 ∨ ((x + 68 + 2 * j)) = (x) + 27 ∨ ((x) + 58 ≤ ((x + 68 + 2 * j)) ∧ ((x + 68 + 2 * j)) ≤ (x) + 67) ∨ (((x + 68 + 2 * j)) = (x) + 1 ∧ (1) = 11) ∨ ((x + 68 + 2 * j)) = (x) + 6) := by intros; omega
theorem dW_679 (x y : Nat) (hxy : x + 76 ≤ y) : ∀ j : Nat, j < 4 → ¬ ((((y + 5)) = (y) + 3 ∨ ((y) + 7 ≤ ((y + 5)) ∧ ((y + 5)) ≤ (y) + 11)) ∨ (((y + 5)) = (y) + 1 ∧ ((j) = 6 ∨ (133 ≤ (j) ∧ (j) < 157)))) := by intros; omega
theorem dW_680 (x y : Nat) (hxy : x + 76 ≤ y) : ∀ j : Nat, j < 4 → ∀ k : Nat, k < 24 → ¬ (((x + 68 + 2 * j + 1)) = (x) + 24 ∨ ((x + 68 + 2 * j + 1)) = (x) + 27 ∨ ((x) + 58 ≤ ((x + 68 + 2 * j + 1)) ∧ ((x + 68 + 2 * j + 1)) ≤ (x) + 67) ∨ (((x + 68 + 2 * j + 1)) = (x) + 1 ∧ (k) = 11) ∨ ((x + 68 + 2 * j + 1)) = (x) + 6) := by intros; omega
theorem dW_681 (x y : Nat) (hxy : x + 76 ≤ y) : ∀ k : Nat, k < 96 → ¬ ((((y + 6)) = (y) + 3 ∨ ((y) + 7 ≤ ((y + 6)) ∧ ((y + 6)) ≤ (y) + 11)) ∨ (((y + 6)) = (y) + 1 ∧ ((k) = 6 ∨ (133 ≤ (k) ∧ (k) < 157)))) := by intros; omega
theorem dW_682 (x y : Nat) (hxy : x + 76 ≤ y) : ¬ (((x + 56)) = (x) + 24 ∨ ((x + 56)) = (x) + 27 ∨ ((x) + 58 ≤ ((x + 56)) ∧ ((x + 56)) ≤ (x) + 67) ∨ (((x + 56)) = (x) + 1 ∧ (1) = 11) ∨ ((x + 56)) = (x) + 6) := by omega
theorem dW_683 (x y : Nat) (hxy : x + 76 ≤ y) : ¬ (((y) = (y) + 3 ∨ ((y) + 7 ≤ (y) ∧ (y) ≤ (y) + 11)) ∨ ((y) = (y) + 1 ∧ ((18) = 6 ∨ (133 ≤ (18) ∧ (18) < 157)))) := by omega
theorem dW_684 (x y : Nat) (hxy : x + 76 ≤ y) : ∀ k : Nat, ¬ (((x + 56 + 1)) = (x) + 24 ∨ ((x + 56 + 1)) = (x) + 27 ∨ ((x) + 58 ≤ ((x + 56 + 1)) ∧ ((x + 56 + 1)) ≤ (x) + 67) ∨ (((x + 56 + 1)) = (x) + 1 ∧ (k) = 11) ∨ ((x + 56 + 1)) = (x) + 6) := by intros; omega
theorem dW_685 (x y : Nat) (hxy : x + 76 ≤ y) : ∀ k : Nat, ¬ ((((y + 12)) = (y) + 3 ∨ ((y) + 7 ≤ ((y + 12)) ∧ ((y + 12)) ≤ (y) + 11)) ∨ (((y + 12)) = (y) + 1 ∧ ((k) = 6 ∨ (133 ≤ (k) ∧ (k) < 157)))) := by intros; omega
theorem dW_686 (x y : Nat) (hxy : x + 76 ≤ y) : ∀ k : Nat, ¬ (((x + 1 + 4)) = (x) + 24 ∨ ((x + 1 + 4)) = (x) + 27 ∨ ((x) + 58 ≤ ((x + 1 + 4)) ∧ ((x + 1 + 4)) ≤ (x) + 67) ∨ (((x + 1 + 4)) = (x) + 1 ∧ (k) = 11) ∨ ((x + 1 + 4)) = (x) + 6) := by intros; omega
theorem dW_687 (x y : Nat) (hxy : x + 76 ≤ y) : ∀ k : Nat, k < 60 → ¬ ((((y + 1)) = (y) + 3 ∨ ((y) + 7 ≤ ((y + 1)) ∧ ((y + 1)) ≤ (y) + 11)) ∨ (((y + 1)) = (y) + 1 ∧ (((73 + k)) = 6 ∨ (133 ≤ ((73 + k)) ∧ ((73 + k)) < 157)))) := by intros; omega
theorem dW_688 (x y : Nat) (hxy : x + 76 ≤ y) : ∀ a : Nat, (a = x + 1 + 21 ∨ a = x + 1 + 22 ∨ a = x + 1 + 24 ∨ a = x + 1 + 25) → ∀ k : Nat, ¬ ((a) = (x) + 24 ∨ (a) = (x) + 27 ∨ ((x) + 58 ≤ (a) ∧ (a) ≤ (x) + 67) ∨ ((a) = (x) + 1 ∧ (k) = 11) ∨ (a) = (x) + 6) := by intros; omega
theorem dW_689 (x y : Nat) (hxy : x + 76 ≤ y) : ∀ k : Nat, 157 ≤ k → ¬ ((((y + 1)) = (y) + 3 ∨ ((y) + 7 ≤ ((y + 1)) ∧ ((y + 1)) ≤ (y) + 11)) ∨ (((y + 1)) = (y) + 1 ∧ ((k) = 6 ∨ (133 ≤ (k) ∧ (k) < 157)))) := by intros; omega
theorem dW_690 (x y : Nat) (hxy : x + 76 ≤ y) : ∀ j : Nat, j < 9 → ∀ k : Nat, k < 6 → ¬ (((x + 28 + 6 + 1 * j)) = (x) + 24 ∨ ((x + 28 + 6 + 1 * j)) = (x) + 27 ∨ ((x) + 58 ≤ ((x + 28 + 6 + 1 * j)) ∧ ((x + 28 + 6 + 1 * j)) ≤ (x) + 67) ∨ (((x + 28 + 6 + 1 * j)) = (x) + 1 ∧ (k) = 11) ∨ ((x + 28 + 6 + 1 * j)) = (x) + 6) := by intros; omega
theorem dW_691 (x y : Nat) (hxy : x + 76 ≤ y) : ∀ k : Nat, 7 ≤ k → k < 61 → ¬ ((((y + 2)) = (y) + 3 ∨ ((y) + 7 ≤ ((y + 2)) ∧ ((y + 2)) ≤ (y) + 11)) ∨ (((y + 2)) = (y) + 1 ∧ ((k) = 6 ∨ (133 ≤ (k) ∧ (k) < 157)))) := by intros; omega
theorem dW_692 (x y : Nat) (hxy : x + 76 ≤ y) : ∀ j : Nat, j < 6 → ¬ (((x + 28 + 15 + 1 * j)) = (x) + 24 ∨ ((x + 28 + 15 + 1 * j)) = (x) + 27 ∨ ((x) + 58 ≤ ((x + 28 + 15 + 1 * j)) ∧ ((x + 28 + 15 + 1 * j)) ≤ (x) + 67) ∨ (((x + 28 + 15 + 1 * j)) = (x) + 1 ∧ (0) = 11) ∨ ((x + 28 + 15 + 1 * j)) = (x) + 6) := by intros; omega
theorem dW_693 (x y : Nat) (hxy : x + 76 ≤ y) : ∀ j : Nat, j < 6 → ¬ ((((y + 2)) = (y) + 3 ∨ ((y) + 7 ≤ ((y + 2)) ∧ ((y + 2)) ≤ (y) + 11)) ∨ (((y + 2)) = (y) + 1 ∧ (((61 + 2 * j + 0)) = 6 ∨ (133 ≤ ((61 + 2 * j + 0)) ∧ ((61 + 2 * j + 0)) < 157)))) := by intros; omega
theorem dW_694 (x y : Nat) (hxy : x + 76 ≤ y) : ¬ (((x + 28)) = (x) + 24 ∨ ((x + 28)) = (x) + 27 ∨ ((x) + 58 ≤ ((x + 28)) ∧ ((x + 28)) ≤ (x) + 67) ∨ (((x + 28)) = (x) + 1 ∧ (9) = 11) ∨ ((x + 28)) = (x) + 6) := by omega
theorem dW_695 (x y : Nat) (hxy : x + 76 ≤ y) : ∀ k : Nat, ¬ (((x + 28 + 4)) = (x) + 24 ∨ ((x + 28 + 4)) = (x) + 27 ∨ ((x) + 58 ≤ ((x + 28 + 4)) ∧ ((x + 28 + 4)) ≤ (x) + 67) ∨ (((x + 28 + 4)) = (x) + 1 ∧ (k) = 11) ∨ ((x + 28 + 4)) = (x) + 6) := by intros; omega
theorem dW_696 (x y : Nat) (hxy : x + 76 ≤ y) : ¬ ((((y + 2)) = (y) + 3 ∨ ((y) + 7 ≤ ((y + 2)) ∧ ((y + 2)) ≤ (y) + 11)) ∨ (((y + 2)) = (y) + 1 ∧ ((5) = 6 ∨ (133 ≤ (5) ∧ (5) < 157)))) := by omega
theorem dW_697 (x y : Nat) (hxy : x + 76 ≤ y) : ∀ k : Nat, k < 60 → ¬ ((((y + 2)) = (y) + 3 ∨ ((y) + 7 ≤ ((y + 2)) ∧ ((y + 2)) ≤ (y) + 11)) ∨ (((y + 2)) = (y) + 1 ∧ (((73 + k)) = 6 ∨ (133 ≤ ((73 + k)) ∧ ((73 + k)) < 157)))) := by intros; omega
theorem dW_698 (x y : Nat) (hxy : x + 76 ≤ y) : ∀ a : Nat, (a = x + 28 + 21 ∨ a = x + 28 + 22 ∨ a = x + 28 + 24 ∨ a = x + 28 + 25) → ∀ k : Nat, ¬ ((a) = (x) + 24 ∨ (a) = (x) + 27 ∨ ((x) + 58 ≤ (a) ∧ (a) ≤ (x) + 67) ∨ ((a) = (x) + 1 ∧ (k) = 11) ∨ (a) = (x) + 6) := by intros; omega
theorem dW_699 (x y : Nat) (hxy : x + 76 ≤ y) : ∀ k : Nat, 157 ≤ k → ¬ ((((y + 2)) = (y) + 3 ∨ ((y) + 7 ≤ ((y + 2)) ∧ ((y + 2)) ≤ (y) + 11)) ∨ (((y + 2)) = (y) + 1 ∧ ((k) = 6 ∨ (133 ≤ (k) ∧ (k) < 157)))) := by intros; omega
set_option maxHeartbeats 4000000 in
set_option maxRecDepth 100000 in
theorem lc_tell {p : Program} {l : Launch} {e : Env} {s : State} {m : MethodId} {below : List Frame} {meth : Method} {c : Code} {b L x y : Nat} {xs : Nat → Int32} {E : zz_E} {Q : State → Prop} (hA : zz_LA p s m c b L xs E x y) (i : Int32) (hi : 0 ≤ i.toInt ∧ i.toInt + 6 ≤ L) (σ : zz_S) (H : Heap) (locs : List Loc) (ls : Array Slot) (hR : zz_RL σ x y) (hQ : zz_RD σ x y) (hP : zz_P E σ H) (hS : va_S (zz_A E) s.heap H locs) (hl : lv_has ls 4 [(0, .ref b), (1, .ref x), (2, .ref y), (3, .int i)])
    (kk : ∀ (σ1 : zz_S) (H1 : Heap) (locs1 : List Loc), zz_RL σ1 x y → zz_RD σ1 x y → zz_P E σ1 H1 → va_S (zz_A E) s.heap H1 locs1 → W p l e room_1 s m #[Value.ref b] below meth c H1 locs1 600000 7302250 Q (F0 m 1384 ls [])) : W p l e room_1 s m #[Value.ref b] below meth c H locs 600000 7302250 Q (F0 m 1302 ls []) := by
  obtain ⟨hx, hb, hml, hown, hts, hX, hbl, hbE, hL, gL, gM, hxy, hK⟩ := hA
  have hbA : ¬ zz_A E b := fun h => absurd (hbE b h) (Nat.not_le.mpr hbl)
  have k_1 : (1 : Int32).toInt = 1 := by decide +kernel
  refine lv_aload_n hx hb dL_law_1302 rfl (lv_at hl 1 rfl) ?_
  refine lv_aload_n hx hb dL_law_1303 rfl (lv_at hl 0 rfl) ?_
  refine lv_iload_n hx hb dL_law_1304 rfl (lv_at hl 3 rfl) ?_
  refine lv_iconst (v := 1) hx hb dL_law_1305 (by decide) ?_
  refine lv_iadd hx hb dL_law_1306 ?_
  refine lv_topi (fun n1 e1 => ?_)
  have f1 : n1.toInt = (i).toInt + (1 : Int32).toInt := zz_addT e1 (by omega) (by omega)
  refine va_sld hx hb hX hbl hbA hS (vp_in_iff.mpr ⟨by omega, by omega⟩) dL_law_1307 ?_
  refine lv_topi (fun v2 u2 => ?_)
  refine zz_callVi (As := [.int v2]) (rest := []) ⟨hx, hb, hml, hown, hts⟩ hK hP hS (c_X8_tell l E σ x v2 gL hR.1) (cwV 1 hts gL_law_X8_tell rfl rfl rfl (by decide +kernel) ⟨Nat.le_of_ble_eq_true rfl, Nat.le_of_ble_eq_true rfl⟩) (gL.1) rfl rfl hl.1 rfl (Nat.le_of_ble_eq_true rfl) dL_law_1308 ⟨Nat.le_refl _, Nat.le_refl _⟩ (fun r1 σ1 H locs q1 hP hS => ?_)
  try dsimp only at q1
  obtain ⟨w1, p1⟩ := q1
  have B : ∀ a k : Nat, y ≤ a → a ≤ y + 12 → σ1 a k = σ a k := fun a k h1 h2 => w1 a k ((dW_654 x y hxy) a k h1 h2)
  have hJ1 : zz_IM σ1 y := hR.2.1.far B
  refine lv_pop hx hb dL_law_1311 rfl ?_
  refine lv_aload_n hx hb dL_law_1312 rfl (lv_at hl 2 rfl) ?_
  refine lv_aload_n hx hb dL_law_1313 rfl (lv_at hl 0 rfl) ?_
  refine lv_iload_n hx hb dL_law_1314 rfl (lv_at hl 3 rfl) ?_
  refine lv_iconst (v := 1) hx hb dL_law_1315 (by decide) ?_
  refine lv_iadd hx hb dL_law_1316 ?_
  refine lv_topi (fun n4 e4 => ?_)
  have f4 : n4.toInt = (i).toInt + (1 : Int32).toInt := zz_addT e4 (by omega) (by omega)
  refine va_sld hx hb hX hbl hbA hS (vp_in_iff.mpr ⟨by omega, by omega⟩) dL_law_1317 ?_
  refine lv_topi (fun v5 u5 => ?_)
  have z5 : v5 = v2 := by rw [u5, u2, e4, e1]
  have zt5 := congrArg Int32.toInt z5
  refine zz_callVi (As := [.int v5]) (rest := []) ⟨hx, hb, hml, hown, hts⟩ hK hP hS (c_X9_tell l E σ1 y v5 gM hJ1) (cwV 1 hts gL_law_X9_tell rfl rfl rfl (by decide +kernel) ⟨Nat.le_of_ble_eq_true rfl, Nat.le_of_ble_eq_true rfl⟩) (gM.1) rfl rfl hl.1 rfl (Nat.le_of_ble_eq_true rfl) dL_law_1318 ⟨Nat.le_refl _, Nat.le_refl _⟩ (fun r2 σ2 H locs q2 hP hS => ?_)
  try dsimp only at q2
  obtain ⟨w2, p2⟩ := q2
  have A : ∀ a k : Nat, x ≤ a → a < x + 76 → σ2 a k = σ1 a k := fun a k h1 h2 => w2 a k ((dW_655 x y hxy) a k h1 h2)
  obtain ⟨i1, p1⟩ := p1
  obtain ⟨i2, p2⟩ := p2
  try simp only [z5] at p2
  obtain ⟨h0, h1, h2, h3, h4, h5, h6⟩ := hR.2.2.1
  have ga6 := congrArg Int32.toInt (A (x + 1) 11 (by omega) (by omega))
  have gb6 := congrArg Int32.toInt (B (y + 1) 6 (by omega) (by omega))
  have rr2 : zz_RR σ2 (x + 1) (y + 1) := ⟨(congrArg Int32.toInt (A (x + 1) 0 (by omega) (by omega))).trans ((congrArg Int32.toInt (w1 (x + 1) 0 (dW_660 x y hxy))).trans (h0.trans ((congrArg Int32.toInt (B (y + 1) 0 (by omega) (by omega))).symm.trans (congrArg Int32.toInt (w2 (y + 1) 0 (dW_661 x y hxy))).symm))), (congrArg Int32.toInt (A (x + 1) 1 (by omega) (by omega))).trans ((congrArg Int32.toInt (w1 (x + 1) 1 (dW_662 x y hxy))).trans (h1.trans ((congrArg Int32.toInt (B (y + 1) 4 (by omega) (by omega))).symm.trans (congrArg Int32.toInt (w2 (y + 1) 4 (dW_663 x y hxy))).symm))), (congrArg Int32.toInt (A (x + 1) 2 (by omega) (by omega))).trans ((congrArg Int32.toInt (w1 (x + 1) 2 (dW_664 x y hxy))).trans (h2.trans ((congrArg Int32.toInt (B (y + 1) 1 (by omega) (by omega))).symm.trans (congrArg Int32.toInt (w2 (y + 1) 1 (dW_665 x y hxy))).symm))), (congrArg Int32.toInt (A (x + 1) 4 (by omega) (by omega))).trans ((congrArg Int32.toInt (w1 (x + 1) 4 (dW_666 x y hxy))).trans (h3.trans ((congrArg Int32.toInt (B (y + 1) 2 (by omega) (by omega))).symm.trans (congrArg Int32.toInt (w2 (y + 1) 2 (dW_667 x y hxy))).symm))), (congrArg Int32.toInt (A (x + 1) 6 (by omega) (by omega))).trans ((congrArg Int32.toInt (w1 (x + 1) 6 (dW_668 x y hxy))).trans (h4.trans ((congrArg Int32.toInt (B (y + 1) 3 (by omega) (by omega))).symm.trans (congrArg Int32.toInt (w2 (y + 1) 3 (dW_669 x y hxy))).symm))), (congrArg Int32.toInt (A (x + 1) 9 (by omega) (by omega))).trans ((congrArg Int32.toInt (w1 (x + 1) 9 (dW_670 x y hxy))).trans (h5.trans ((congrArg Int32.toInt (B (y + 1) 5 (by omega) (by omega))).symm.trans (congrArg Int32.toInt (w2 (y + 1) 5 (dW_671 x y hxy))).symm))), by omega⟩
  have hRL : zz_RL σ2 x y := hR.real i1 i2 A B rr2 (fun k => w1 (x + 28) k ((dW_656 x y hxy) k)) (w1 x 2 (dW_657 x y hxy)) (fun k => w2 (y + 2) k ((dW_658 x y hxy) k)) (w2 y 2 (dW_659 x y hxy))
  obtain ⟨hqD, hqW, hqK, hqB, hqN, hqC, hqL, hqT, hqP, hqX⟩ := hQ
  obtain ⟨aD, aW, aKD, aKW, aB, aN, aC, aL, aT, aP, aX, aKP, aKX⟩ := zz_aX A
  obtain ⟨bD, bW, bKD, bKW, bB, bN, bC, bL, bT, bP, bX, bKP, bKX⟩ := zz_bM hR.2.1 B
  have rD : zz_DX σ2 (x + 1) = zz_DM σ2 (y + 1) := by rw [aD, zz_DXk (r := x + 1) w1 (dW_672 x y hxy), zz_DMk (a := y + 1) w2 (dW_673 x y hxy), bD, hqD]
  have rW : zz_PX 0 σ2 (x + 1) = zz_PM 0 σ2 (y + 1) := by rw [aW, zz_PXk (f := 0) (r := x + 1) w1 (dW_674 x y hxy), zz_PMk (f := 0) (a := y + 1) w2 (dW_675 x y hxy), bW, hqW]
  have rB : zz_HX 0 σ2 x = zz_HM σ2 (y + 4) := by rw [aB, zz_HX.eq (f := 0) (x := x) (fun j hj => w1 _ _ ((dW_676 x y hxy) j hj)), zz_HM.eq (a := y + 4) (fun j hj => w2 _ _ ((dW_677 x y hxy) j hj)), bB, hqB]
  have rN : zz_HX 1 σ2 x = zz_HM σ2 (y + 5) := by rw [aN, zz_HX.eq (f := 1) (x := x) (fun j hj => w1 _ _ ((dW_678 x y hxy) j hj)), zz_HM.eq (a := y + 5) (fun j hj => w2 _ _ ((dW_679 x y hxy) j hj)), bN, hqN]
  have rC : zz_CX σ2 x = zz_CM σ2 (y + 6) := by rw [aC, zz_CX.eq (x := x) (fun j hj k hk => w1 _ _ ((dW_680 x y hxy) j hj k hk)), zz_CM.eq (a := y + 6) (fun k hk => w2 _ _ ((dW_681 x y hxy) k hk)), bC, hqC]
  have rL : (σ2 (x + 56) 1).toInt = (σ2 y 18).toInt := by rw [aL, congrArg Int32.toInt (w1 (x + 56) 1 (dW_682 x y hxy)), congrArg Int32.toInt (w2 y 18 (dW_683 x y hxy)), bL, hqL]
  have rT : zz_TV σ2 (x + 56 + 1) = zz_TV σ2 (y + 12) := by rw [aT, zz_TV.eq (a := x + 56 + 1) (b := x + 56 + 1) (fun k _ => w1 _ k ((dW_684 x y hxy) k)), zz_TV.eq (a := y + 12) (b := y + 12) (fun k _ => w2 _ k ((dW_685 x y hxy) k)), bT, hqT]
  have rP : zz_Tp σ2 (x + 1 + 4) (σ2 (x + 1) 9).toInt = zz_Tm σ2 (y + 1) := by rw [aP, zz_Tp.all (a := x + 1 + 4) (b := x + 1 + 4) (congrArg Int32.toInt (w1 (x + 1) 9 (dW_670 x y hxy))) (fun k => w1 _ k ((dW_686 x y hxy) k)), zz_Tm.eq (a := y + 1) (b := y + 1) (w2 (y + 1) 5 (dW_671 x y hxy)) hJ1.1.2.2.2.2.1.2 (fun k hk => w2 (y + 1) (73 + k) ((dW_687 x y hxy) k hk)), bP, hqP]
  have rX : zz_tts (zz_XT σ2 (x + 1)) (zz_MT σ2 (y + 1)) := by rw [aX, zz_XT.all (r := x + 1) (fun a ha k => w1 a k ((dW_688 x y hxy) a ha k)), zz_MT.hi (a := y + 1) (b := y + 1) (fun k hk => w2 (y + 1) k ((dW_689 x y hxy) k hk)), bX]; exact hqX
  have rK : (σ2 x 2).toInt = 0 ∨ (zz_DX σ2 (x + 28) = zz_DM σ2 (y + 2) ∧ zz_PX 0 σ2 (x + 28) = zz_PM 0 σ2 (y + 2) ∧ zz_Tp σ2 (x + 28 + 4) (σ2 (x + 28) 9).toInt = zz_Tm σ2 (y + 2) ∧ zz_tts (zz_XT σ2 (x + 28)) (zz_MT σ2 (y + 2))) := hqK.elim (fun q => Or.inl ((congrArg Int32.toInt ((A x 2 (by omega) (by omega)).trans (w1 x 2 (dW_657 x y hxy)))).trans q)) (fun q => Or.inr ⟨by rw [aKD, zz_DXk (r := x + 28) w1 (dW_690 x y hxy), zz_DMk (a := y + 2) w2 (dW_691 x y hxy), bKD, q.1], by rw [aKW, zz_PXk (f := 0) (r := x + 28) w1 (dW_692 x y hxy), zz_PMk (f := 0) (a := y + 2) w2 (dW_693 x y hxy), bKW, q.2.1], by rw [aKP, zz_Tp.all (a := x + 28 + 4) (b := x + 28 + 4) (congrArg Int32.toInt (w1 (x + 28) 9 (dW_694 x y hxy))) (fun k => w1 _ k ((dW_695 x y hxy) k)), zz_Tm.eq (a := y + 2) (b := y + 2) (w2 (y + 2) 5 (dW_696 x y hxy)) hJ1.2.1.2.2.2.2.1.2 (fun k hk => w2 (y + 2) (73 + k) ((dW_697 x y hxy) k hk)), bKP, q.2.2.1], by rw [aKX, zz_XT.all (r := x + 28) (fun a ha k => w1 a k ((dW_698 x y hxy) a ha k)), zz_MT.hi (a := y + 2) (b := y + 2) (fun k hk => w2 (y + 2) k ((dW_699 x y hxy) k hk)), bKX]; exact q.2.2.2⟩)
  have hQ2 : zz_RD σ2 x y := ⟨rD, rW, rK, rB, rN, rC, rL, rT, rP, rX⟩
  refine lv_pop hx hb dL_law_1321 rfl ?_
  refine lv_goto (tgt := 1384) hx hb dL_law_1322 (by decide) ?_
  exact kk _ _ _ hRL hQ2 hP hS
theorem gL_law_X8_check : GoodIn wsL_law (wsV RL 162 RX8 yX8_check wzX8_check) := wz_coL bm_996 (wz_coL bm_997 (wz_coL bm_998 (wz_coL bm_2 (wz_inL bm_999))))
theorem gL_law_X9_check : GoodIn wsL_law (wsV RL 165 RX9 yX9_check wzX9_check) := wz_coL bm_1000 (wz_coL bm_1001 (wz_coL bm_1002 (wz_coL bm_5 (wz_inL bm_1003))))
theorem dW_700 (x y : Nat) (hxy : x + 76 ≤ y) : ∀ a k : Nat, y ≤ a → a ≤ y + 12 → ¬ ((a) = (x) + 24 ∨ (a) = (x) + 27 ∨ ((x) + 58 ≤ (a) ∧ (a) ≤ (x) + 67) ∨ ((a) = (x) + 1 ∧ (k) = 11)) := by intros; omega
theorem dW_701 (x y : Nat) (hxy : x + 76 ≤ y) : ∀ a k : Nat, x ≤ a → a < x + 76 → ¬ (((a) = (y) + 3 ∨ ((y) + 7 ≤ (a) ∧ (a) ≤ (y) + 11)) ∨ ((a) = (y) + 1 ∧ (k) = 6)) := by intros; omega
theorem dW_702 (x y : Nat) (hxy : x + 76 ≤ y) : ∀ k : Nat, ¬ (((x + 28)) = (x) + 24 ∨ ((x + 28)) = (x) + 27 ∨ ((x) + 58 ≤ ((x + 28)) ∧ ((x + 28)) ≤ (x) + 67) ∨ (((x + 28)) = (x) + 1 ∧ (k) = 11)) := by intros; omega
theorem dW_703 (x y : Nat) (hxy : x + 76 ≤ y) : ¬ ((x) = (x) + 24 ∨ (x) = (x) + 27 ∨ ((x) + 58 ≤ (x) ∧ (x) ≤ (x) + 67) ∨ ((x) = (x) + 1 ∧ (2) = 11)) := by omega
theorem dW_704 (x y : Nat) (hxy : x + 76 ≤ y) : ∀ k : Nat, ¬ ((((y + 2)) = (y) + 3 ∨ ((y) + 7 ≤ ((y + 2)) ∧ ((y + 2)) ≤ (y) + 11)) ∨ (((y + 2)) = (y) + 1 ∧ (k) = 6)) := by intros; omega
theorem dW_705 (x y : Nat) (hxy : x + 76 ≤ y) : ¬ (((y) = (y) + 3 ∨ ((y) + 7 ≤ (y) ∧ (y) ≤ (y) + 11)) ∨ ((y) = (y) + 1 ∧ (2) = 6)) := by omega
theorem dW_706 (x y : Nat) (hxy : x + 76 ≤ y) : ¬ (((x + 1)) = (x) + 24 ∨ ((x + 1)) = (x) + 27 ∨ ((x) + 58 ≤ ((x + 1)) ∧ ((x + 1)) ≤ (x) + 67) ∨ (((x + 1)) = (x) + 1 ∧ (0) = 11)) := by omega
theorem dW_707 (x y : Nat) (hxy : x + 76 ≤ y) : ¬ ((((y + 1)) = (y) + 3 ∨ ((y) + 7 ≤ ((y + 1)) ∧ ((y + 1)) ≤ (y) + 11)) ∨ (((y + 1)) = (y) + 1 ∧ (0) = 6)) := by omega
theorem dW_708 (x y : Nat) (hxy : x + 76 ≤ y) : ¬ (((x + 1)) = (x) + 24 ∨ ((x + 1)) = (x) + 27 ∨ ((x) + 58 ≤ ((x + 1)) ∧ ((x + 1)) ≤ (x) + 67) ∨ (((x + 1)) = (x) + 1 ∧ (1) = 11)) := by omega
theorem dW_709 (x y : Nat) (hxy : x + 76 ≤ y) : ¬ ((((y + 1)) = (y) + 3 ∨ ((y) + 7 ≤ ((y + 1)) ∧ ((y + 1)) ≤ (y) + 11)) ∨ (((y + 1)) = (y) + 1 ∧ (4) = 6)) := by omega
theorem dW_710 (x y : Nat) (hxy : x + 76 ≤ y) : ¬ (((x + 1)) = (x) + 24 ∨ ((x + 1)) = (x) + 27 ∨ ((x) + 58 ≤ ((x + 1)) ∧ ((x + 1)) ≤ (x) + 67) ∨ (((x + 1)) = (x) + 1 ∧ (2) = 11)) := by omega
theorem dW_711 (x y : Nat) (hxy : x + 76 ≤ y) : ¬ ((((y + 1)) = (y) + 3 ∨ ((y) + 7 ≤ ((y + 1)) ∧ ((y + 1)) ≤ (y) + 11)) ∨ (((y + 1)) = (y) + 1 ∧ (1) = 6)) := by omega
theorem dW_712 (x y : Nat) (hxy : x + 76 ≤ y) : ¬ (((x + 1)) = (x) + 24 ∨ ((x + 1)) = (x) + 27 ∨ ((x) + 58 ≤ ((x + 1)) ∧ ((x + 1)) ≤ (x) + 67) ∨ (((x + 1)) = (x) + 1 ∧ (4) = 11)) := by omega
theorem dW_713 (x y : Nat) (hxy : x + 76 ≤ y) : ¬ ((((y + 1)) = (y) + 3 ∨ ((y) + 7 ≤ ((y + 1)) ∧ ((y + 1)) ≤ (y) + 11)) ∨ (((y + 1)) = (y) + 1 ∧ (2) = 6)) := by omega
theorem dW_714 (x y : Nat) (hxy : x + 76 ≤ y) : ¬ (((x + 1)) = (x) + 24 ∨ ((x + 1)) = (x) + 27 ∨ ((x) + 58 ≤ ((x + 1)) ∧ ((x + 1)) ≤ (x) + 67) ∨ (((x + 1)) = (x) + 1 ∧ (6) = 11)) := by omega
theorem dW_715 (x y : Nat) (hxy : x + 76 ≤ y) : ¬ ((((y + 1)) = (y) + 3 ∨ ((y) + 7 ≤ ((y + 1)) ∧ ((y + 1)) ≤ (y) + 11)) ∨ (((y + 1)) = (y) + 1 ∧ (3) = 6)) := by omega
theorem dW_716 (x y : Nat) (hxy : x + 76 ≤ y) : ¬ (((x + 1)) = (x) + 24 ∨ ((x + 1)) = (x) + 27 ∨ ((x) + 58 ≤ ((x + 1)) ∧ ((x + 1)) ≤ (x) + 67) ∨ (((x + 1)) = (x) + 1 ∧ (9) = 11)) := by omega
theorem dW_717 (x y : Nat) (hxy : x + 76 ≤ y) : ¬ ((((y + 1)) = (y) + 3 ∨ ((y) + 7 ≤ ((y + 1)) ∧ ((y + 1)) ≤ (y) + 11)) ∨ (((y + 1)) = (y) + 1 ∧ (5) = 6)) := by omega
theorem dW_718 (x y : Nat) (hxy : x + 76 ≤ y) : ∀ j : Nat, j < 9 → ∀ k : Nat, k < 6 → ¬ (((x + 1 + 6 + 1 * j)) = (x) + 24 ∨ ((x + 1 + 6 + 1 * j)) = (x) + 27 ∨ ((x) + 58 ≤ ((x + 1 + 6 + 1 * j)) ∧ ((x + 1 + 6 + 1 * j)) ≤ (x) + 67) ∨ (((x + 1 + 6 + 1 * j)) = (x) + 1 ∧ (k) = 11)) := by intros; omega
theorem dW_719 (x y : Nat) (hxy : x + 76 ≤ y) : ∀ k : Nat, 7 ≤ k → k < 61 → ¬ ((((y + 1)) = (y) + 3 ∨ ((y) + 7 ≤ ((y + 1)) ∧ ((y + 1)) ≤ (y) + 11)) ∨ (((y + 1)) = (y) + 1 ∧ (k) = 6)) := by intros; omega
theorem dW_720 (x y : Nat) (hxy : x + 76 ≤ y) : ∀ j : Nat, j < 6 → ¬ (((x + 1 + 15 + 1 * j)) = (x) + 24 ∨ ((x + 1 + 15 + 1 * j)) = (x) + 27 ∨ ((x) + 58 ≤ ((x + 1 + 15 + 1 * j)) ∧ ((x + 1 + 15 + 1 * j)) ≤ (x) + 67) ∨ (((x + 1 + 15 + 1 * j)) = (x) + 1 ∧ (0) = 11)) := by intros; omega
theorem dW_721 (x y : Nat) (hxy : x + 76 ≤ y) : ∀ j : Nat, j < 6 → ¬ ((((y + 1)) = (y) + 3 ∨ ((y) + 7 ≤ ((y + 1)) ∧ ((y + 1)) ≤ (y) + 11)) ∨ (((y + 1)) = (y) + 1 ∧ ((61 + 2 * j + 0)) = 6)) := by intros; omega
theorem dW_722 (x y : Nat) (hxy : x + 76 ≤ y) : ∀ j : Nat, j < 4 → ¬ (((x + 68 + 2 * j)) = (x) + 24 ∨ ((x + 68 + 2 * j)) = (x) + 27 ∨ ((x) + 58 ≤ ((x + 68 + 2 * j)) ∧ ((x + 68 + 2 * j)) ≤ (x) + 67) ∨ (((x + 68 + 2 * j)) = (x) + 1 ∧ (0) = 11)) := by intros; omega
theorem dW_723 (x y : Nat) (hxy : x + 76 ≤ y) : ∀ j : Nat, j < 4 → ¬ ((((y + 4)) = (y) + 3 ∨ ((y) + 7 ≤ ((y + 4)) ∧ ((y + 4)) ≤ (y) + 11)) ∨ (((y + 4)) = (y) + 1 ∧ (j) = 6)) := by intros; omega
theorem dW_724 (x y : Nat) (hxy : x + 76 ≤ y) : ∀ j : Nat, j < 4 → ¬ (((x + 68 + 2 * j)) = (x) + 24 ∨ ((x + 68 + 2 * j)) = (x) + 27 ∨ ((x) + 58 ≤ ((x + 68 + 2 * j)) ∧ ((x + 68 + 2 * j)) ≤ (x) + 67) ∨ (((x + 68 + 2 * j)) = (x) + 1 ∧ (1) = 11)) := by intros; omega
theorem dW_725 (x y : Nat) (hxy : x + 76 ≤ y) : ∀ j : Nat, j < 4 → ¬ ((((y + 5)) = (y) + 3 ∨ ((y) + 7 ≤ ((y + 5)) ∧ ((y + 5)) ≤ (y) + 11)) ∨ (((y + 5)) = (y) + 1 ∧ (j) = 6)) := by intros; omega
theorem dW_726 (x y : Nat) (hxy : x + 76 ≤ y) : ∀ j : Nat, j < 4 → ∀ k : Nat, k < 24 → ¬ (((x + 68 + 2 * j + 1)) = (x) + 24 ∨ ((x + 68 + 2 * j + 1)) = (x) + 27 ∨ ((x) + 58 ≤ ((x + 68 + 2 * j + 1)) ∧ ((x + 68 + 2 * j + 1)) ≤ (x) + 67) ∨ (((x + 68 + 2 * j + 1)) = (x) + 1 ∧ (k) = 11)) := by intros; omega
theorem dW_727 (x y : Nat) (hxy : x + 76 ≤ y) : ∀ k : Nat, k < 96 → ¬ ((((y + 6)) = (y) + 3 ∨ ((y) + 7 ≤ ((y + 6)) ∧ ((y + 6)) ≤ (y) + 11)) ∨ (((y + 6)) = (y) + 1 ∧ (k) = 6)) := by intros; omega
theorem dW_728 (x y : Nat) (hxy : x + 76 ≤ y) : ¬ (((x + 56)) = (x) + 24 ∨ ((x + 56)) = (x) + 27 ∨ ((x) + 58 ≤ ((x + 56)) ∧ ((x + 56)) ≤ (x) + 67) ∨ (((x + 56)) = (x) + 1 ∧ (1) = 11)) := by omega
theorem dW_729 (x y : Nat) (hxy : x + 76 ≤ y) : ¬ (((y) = (y) + 3 ∨ ((y) + 7 ≤ (y) ∧ (y) ≤ (y) + 11)) ∨ ((y) = (y) + 1 ∧ (18) = 6)) := by omega
theorem dW_730 (x y : Nat) (hxy : x + 76 ≤ y) : ∀ k : Nat, ¬ (((x + 56 + 1)) = (x) + 24 ∨ ((x + 56 + 1)) = (x) + 27 ∨ ((x) + 58 ≤ ((x + 56 + 1)) ∧ ((x + 56 + 1)) ≤ (x) + 67) ∨ (((x + 56 + 1)) = (x) + 1 ∧ (k) = 11)) := by intros; omega
theorem dW_731 (x y : Nat) (hxy : x + 76 ≤ y) : ∀ k : Nat, ¬ ((((y + 12)) = (y) + 3 ∨ ((y) + 7 ≤ ((y + 12)) ∧ ((y + 12)) ≤ (y) + 11)) ∨ (((y + 12)) = (y) + 1 ∧ (k) = 6)) := by intros; omega
theorem dW_732 (x y : Nat) (hxy : x + 76 ≤ y) : ∀ k : Nat, ¬ (((x + 1 + 4)) = (x) + 24 ∨ ((x + 1 + 4)) = (x) + 27 ∨ ((x) + 58 ≤ ((x + 1 + 4)) ∧ ((x + 1 + 4)) ≤ (x) + 67) ∨ (((x + 1 + 4)) = (x) + 1 ∧ (k) = 11)) := by intros; omega
theorem dW_733 (x y : Nat) (hxy : x + 76 ≤ y) : ∀ k : Nat, k < 60 → ¬ ((((y + 1)) = (y) + 3 ∨ ((y) + 7 ≤ ((y + 1)) ∧ ((y + 1)) ≤ (y) + 11)) ∨ (((y + 1)) = (y) + 1 ∧ ((73 + k)) = 6)) := by intros; omega
theorem dW_734 (x y : Nat) (hxy : x + 76 ≤ y) : ∀ a : Nat, (a = x + 1 + 21 ∨ a = x + 1 + 22 ∨ a = x + 1 + 24 ∨ a = x + 1 + 25) → ∀ k : Nat, ¬ ((a) = (x) + 24 ∨ (a) = (x) + 27 ∨ ((x) + 58 ≤ (a) ∧ (a) ≤ (x) + 67) ∨ ((a) = (x) + 1 ∧ (k) = 11)) := by intros; omega
theorem dW_735 (x y : Nat) (hxy : x + 76 ≤ y) : ∀ k : Nat, 157 ≤ k → ¬ ((((y + 1)) = (y) + 3 ∨ ((y) + 7 ≤ ((y + 1)) ∧ ((y + 1)) ≤ (y) + 11)) ∨ (((y + 1)) = (y) + 1 ∧ (k) = 6)) := by intros; omega
theorem dW_736 (x y : Nat) (hxy : x + 76 ≤ y) : ∀ j : Nat, j < 9 → ∀ k : Nat, k < 6 → ¬ (((x + 28 + 6 + 1 * j)) = (x) + 24 ∨ ((x + 28 + 6 + 1 * j)) = (x) + 27 ∨ ((x) + 58 ≤ ((x + 28 + 6 + 1 * j)) ∧ ((x + 28 + 6 + 1 * j)) ≤ (x) + 67) ∨ (((x + 28 + 6 + 1 * j)) = (x) + 1 ∧ (k) = 11)) := by intros; omega
theorem dW_737 (x y : Nat) (hxy : x + 76 ≤ y) : ∀ k : Nat, 7 ≤ k → k < 61 → ¬ ((((y + 2)) = (y) + 3 ∨ ((y) + 7 ≤ ((y + 2)) ∧ ((y + 2)) ≤ (y) + 11)) ∨ (((y + 2)) = (y) + 1 ∧ (k) = 6)) := by intros; omega
theorem dW_738 (x y : Nat) (hxy : x + 76 ≤ y) : ∀ j : Nat, j < 6 → ¬ (((x + 28 + 15 + 1 * j)) = (x) + 24 ∨ ((x + 28 + 15 + 1 * j)) = (x) + 27 ∨ ((x) + 58 ≤ ((x + 28 + 15 + 1 * j)) ∧ ((x + 28 + 15 + 1 * j)) ≤ (x) + 67) ∨ (((x + 28 + 15 + 1 * j)) = (x) + 1 ∧ (0) = 11)) := by intros; omega
theorem dW_739 (x y : Nat) (hxy : x + 76 ≤ y) : ∀ j : Nat, j < 6 → ¬ ((((y + 2)) = (y) + 3 ∨ ((y) + 7 ≤ ((y + 2)) ∧ ((y + 2)) ≤ (y) + 11)) ∨ (((y + 2)) = (y) + 1 ∧ ((61 + 2 * j + 0)) = 6)) := by intros; omega
theorem dW_740 (x y : Nat) (hxy : x + 76 ≤ y) : ¬ (((x + 28)) = (x) + 24 ∨ ((x + 28)) = (x) + 27 ∨ ((x) + 58 ≤ ((x + 28)) ∧ ((x + 28)) ≤ (x) + 67) ∨ (((x + 28)) = (x) + 1 ∧ (9) = 11)) := by omega
theorem dW_741 (x y : Nat) (hxy : x + 76 ≤ y) : ∀ k : Nat, ¬ (((x + 28 + 4)) = (x) + 24 ∨ ((x + 28 + 4)) = (x) + 27 ∨ ((x) + 58 ≤ ((x + 28 + 4)) ∧ ((x + 28 + 4)) ≤ (x) + 67) ∨ (((x + 28 + 4)) = (x) + 1 ∧ (k) = 11)) := by intros; omega
theorem dW_742 (x y : Nat) (hxy : x + 76 ≤ y) : ¬ ((((y + 2)) = (y) + 3 ∨ ((y) + 7 ≤ ((y + 2)) ∧ ((y + 2)) ≤ (y) + 11)) ∨ (((y + 2)) = (y) + 1 ∧ (5) = 6)) := by omega
theorem dW_743 (x y : Nat) (hxy : x + 76 ≤ y) : ∀ k : Nat, k < 60 → ¬ ((((y + 2)) = (y) + 3 ∨ ((y) + 7 ≤ ((y + 2)) ∧ ((y + 2)) ≤ (y) + 11)) ∨ (((y + 2)) = (y) + 1 ∧ ((73 + k)) = 6)) := by intros; omega
theorem dW_744 (x y : Nat) (hxy : x + 76 ≤ y) : ∀ a : Nat, (a = x + 28 + 21 ∨ a = x + 28 + 22 ∨ a = x + 28 + 24 ∨ a = x + 28 + 25) → ∀ k : Nat, ¬ ((a) = (x) + 24 ∨ (a) = (x) + 27 ∨ ((x) + 58 ≤ (a) ∧ (a) ≤ (x) + 67) ∨ ((a) = (x) + 1 ∧ (k) = 11)) := by intros; omega
theorem dW_745 (x y : Nat) (hxy : x + 76 ≤ y) : ∀ k : Nat, 157 ≤ k → ¬ ((((y + 2)) = (y) + 3 ∨ ((y) + 7 ≤ ((y + 2)) ∧ ((y + 2)) ≤ (y) + 11)) ∨ (((y + 2)) = (y) + 1 ∧ (k) = 6)) := by intros; omega
set_option maxHeartbeats 4000000 in
set_option maxRecDepth 100000 in
theorem lc_check {p : Program} {l : Launch} {e : Env} {s : State} {m : MethodId} {below : List Frame} {meth : Method} {c : Code} {b L x y : Nat} {xs : Nat → Int32} {E : zz_E} {Q : State → Prop} (hA : zz_LA p s m c b L xs E x y) (i : Int32) (hi : 0 ≤ i.toInt ∧ i.toInt + 6 ≤ L) (σ : zz_S) (H : Heap) (locs : List Loc) (ls : Array Slot) (hR : zz_RL σ x y) (hQ : zz_RD σ x y) (hP : zz_P E σ H) (hS : va_S (zz_A E) s.heap H locs) (hl : lv_has ls 4 [(0, .ref b), (1, .ref x), (2, .ref y), (3, .int i)])
    (kk : ∀ (σ1 : zz_S) (H1 : Heap) (locs1 : List Loc), zz_RL σ1 x y → zz_RD σ1 x y → zz_P E σ1 H1 → va_S (zz_A E) s.heap H1 locs1 → W p l e room_1 s m #[Value.ref b] below meth c H1 locs1 600000 7302250 Q (F0 m 1384 ls [])) : W p l e room_1 s m #[Value.ref b] below meth c H locs 600000 7302250 Q (F0 m 1325 ls []) := by
  obtain ⟨hx, hb, hml, hown, hts, hX, hbl, hbE, hL, gL, gM, hxy, hK⟩ := hA
  have hbA : ¬ zz_A E b := fun h => absurd (hbE b h) (Nat.not_le.mpr hbl)
  refine lv_aload_n hx hb dL_law_1325 rfl (lv_at hl 1 rfl) ?_
  refine zz_callVi (As := []) (rest := []) ⟨hx, hb, hml, hown, hts⟩ hK hP hS (c_X8_check l E σ x gL hR.1) (cwV 0 hts gL_law_X8_check rfl rfl rfl (by decide +kernel) ⟨Nat.le_of_ble_eq_true rfl, Nat.le_of_ble_eq_true rfl⟩) (gL.1) rfl rfl hl.1 rfl (Nat.le_of_ble_eq_true rfl) dL_law_1326 ⟨Nat.le_refl _, Nat.le_refl _⟩ (fun r1 σ1 H locs q1 hP hS => ?_)
  try dsimp only at q1
  obtain ⟨w1, p1⟩ := q1
  have B : ∀ a k : Nat, y ≤ a → a ≤ y + 12 → σ1 a k = σ a k := fun a k h1 h2 => w1 a k ((dW_700 x y hxy) a k h1 h2)
  have hJ1 : zz_IM σ1 y := hR.2.1.far B
  refine lv_pop hx hb dL_law_1329 rfl ?_
  refine lv_aload_n hx hb dL_law_1330 rfl (lv_at hl 2 rfl) ?_
  refine zz_callVi (As := []) (rest := []) ⟨hx, hb, hml, hown, hts⟩ hK hP hS (c_X9_check l E σ1 y gM hJ1) (cwV 0 hts gL_law_X9_check rfl rfl rfl (by decide +kernel) ⟨Nat.le_of_ble_eq_true rfl, Nat.le_of_ble_eq_true rfl⟩) (gM.1) rfl rfl hl.1 rfl (Nat.le_of_ble_eq_true rfl) dL_law_1331 ⟨Nat.le_refl _, Nat.le_refl _⟩ (fun r2 σ2 H locs q2 hP hS => ?_)
  try dsimp only at q2
  obtain ⟨w2, p2⟩ := q2
  have A : ∀ a k : Nat, x ≤ a → a < x + 76 → σ2 a k = σ1 a k := fun a k h1 h2 => w2 a k ((dW_701 x y hxy) a k h1 h2)
  obtain ⟨i1, p1⟩ := p1
  obtain ⟨i2, p2⟩ := p2
  obtain ⟨h0, h1, h2, h3, h4, h5, h6⟩ := hR.2.2.1
  have ga6 := congrArg Int32.toInt (A (x + 1) 11 (by omega) (by omega))
  have gb6 := congrArg Int32.toInt (B (y + 1) 6 (by omega) (by omega))
  have rr2 : zz_RR σ2 (x + 1) (y + 1) := ⟨(congrArg Int32.toInt (A (x + 1) 0 (by omega) (by omega))).trans ((congrArg Int32.toInt (w1 (x + 1) 0 (dW_706 x y hxy))).trans (h0.trans ((congrArg Int32.toInt (B (y + 1) 0 (by omega) (by omega))).symm.trans (congrArg Int32.toInt (w2 (y + 1) 0 (dW_707 x y hxy))).symm))), (congrArg Int32.toInt (A (x + 1) 1 (by omega) (by omega))).trans ((congrArg Int32.toInt (w1 (x + 1) 1 (dW_708 x y hxy))).trans (h1.trans ((congrArg Int32.toInt (B (y + 1) 4 (by omega) (by omega))).symm.trans (congrArg Int32.toInt (w2 (y + 1) 4 (dW_709 x y hxy))).symm))), (congrArg Int32.toInt (A (x + 1) 2 (by omega) (by omega))).trans ((congrArg Int32.toInt (w1 (x + 1) 2 (dW_710 x y hxy))).trans (h2.trans ((congrArg Int32.toInt (B (y + 1) 1 (by omega) (by omega))).symm.trans (congrArg Int32.toInt (w2 (y + 1) 1 (dW_711 x y hxy))).symm))), (congrArg Int32.toInt (A (x + 1) 4 (by omega) (by omega))).trans ((congrArg Int32.toInt (w1 (x + 1) 4 (dW_712 x y hxy))).trans (h3.trans ((congrArg Int32.toInt (B (y + 1) 2 (by omega) (by omega))).symm.trans (congrArg Int32.toInt (w2 (y + 1) 2 (dW_713 x y hxy))).symm))), (congrArg Int32.toInt (A (x + 1) 6 (by omega) (by omega))).trans ((congrArg Int32.toInt (w1 (x + 1) 6 (dW_714 x y hxy))).trans (h4.trans ((congrArg Int32.toInt (B (y + 1) 3 (by omega) (by omega))).symm.trans (congrArg Int32.toInt (w2 (y + 1) 3 (dW_715 x y hxy))).symm))), (congrArg Int32.toInt (A (x + 1) 9 (by omega) (by omega))).trans ((congrArg Int32.toInt (w1 (x + 1) 9 (dW_716 x y hxy))).trans (h5.trans ((congrArg Int32.toInt (B (y + 1) 5 (by omega) (by omega))).symm.trans (congrArg Int32.toInt (w2 (y + 1) 5 (dW_717 x y hxy))).symm))), by omega⟩
  have hRL : zz_RL σ2 x y := hR.real i1 i2 A B rr2 (fun k => w1 (x + 28) k ((dW_702 x y hxy) k)) (w1 x 2 (dW_703 x y hxy)) (fun k => w2 (y + 2) k ((dW_704 x y hxy) k)) (w2 y 2 (dW_705 x y hxy))
  obtain ⟨hqD, hqW, hqK, hqB, hqN, hqC, hqL, hqT, hqP, hqX⟩ := hQ
  obtain ⟨aD, aW, aKD, aKW, aB, aN, aC, aL, aT, aP, aX, aKP, aKX⟩ := zz_aX A
  obtain ⟨bD, bW, bKD, bKW, bB, bN, bC, bL, bT, bP, bX, bKP, bKX⟩ := zz_bM hR.2.1 B
  have rD : zz_DX σ2 (x + 1) = zz_DM σ2 (y + 1) := by rw [aD, zz_DXk (r := x + 1) w1 (dW_718 x y hxy), zz_DMk (a := y + 1) w2 (dW_719 x y hxy), bD, hqD]
  have rW : zz_PX 0 σ2 (x + 1) = zz_PM 0 σ2 (y + 1) := by rw [aW, zz_PXk (f := 0) (r := x + 1) w1 (dW_720 x y hxy), zz_PMk (f := 0) (a := y + 1) w2 (dW_721 x y hxy), bW, hqW]
  have rB : zz_HX 0 σ2 x = zz_HM σ2 (y + 4) := by rw [aB, zz_HX.eq (f := 0) (x := x) (fun j hj => w1 _ _ ((dW_722 x y hxy) j hj)), zz_HM.eq (a := y + 4) (fun j hj => w2 _ _ ((dW_723 x y hxy) j hj)), bB, hqB]
  have rN : zz_HX 1 σ2 x = zz_HM σ2 (y + 5) := by rw [aN, zz_HX.eq (f := 1) (x := x) (fun j hj => w1 _ _ ((dW_724 x y hxy) j hj)), zz_HM.eq (a := y + 5) (fun j hj => w2 _ _ ((dW_725 x y hxy) j hj)), bN, hqN]
  have rC : zz_CX σ2 x = zz_CM σ2 (y + 6) := by rw [aC, zz_CX.eq (x := x) (fun j hj k hk => w1 _ _ ((dW_726 x y hxy) j hj k hk)), zz_CM.eq (a := y + 6) (fun k hk => w2 _ _ ((dW_727 x y hxy) k hk)), bC, hqC]
  have rL : (σ2 (x + 56) 1).toInt = (σ2 y 18).toInt := by rw [aL, congrArg Int32.toInt (w1 (x + 56) 1 (dW_728 x y hxy)), congrArg Int32.toInt (w2 y 18 (dW_729 x y hxy)), bL, hqL]
  have rT : zz_TV σ2 (x + 56 + 1) = zz_TV σ2 (y + 12) := by rw [aT, zz_TV.eq (a := x + 56 + 1) (b := x + 56 + 1) (fun k _ => w1 _ k ((dW_730 x y hxy) k)), zz_TV.eq (a := y + 12) (b := y + 12) (fun k _ => w2 _ k ((dW_731 x y hxy) k)), bT, hqT]
  have rP : zz_Tp σ2 (x + 1 + 4) (σ2 (x + 1) 9).toInt = zz_Tm σ2 (y + 1) := by rw [aP, zz_Tp.all (a := x + 1 + 4) (b := x + 1 + 4) (congrArg Int32.toInt (w1 (x + 1) 9 (dW_716 x y hxy))) (fun k => w1 _ k ((dW_732 x y hxy) k)), zz_Tm.eq (a := y + 1) (b := y + 1) (w2 (y + 1) 5 (dW_717 x y hxy)) hJ1.1.2.2.2.2.1.2 (fun k hk => w2 (y + 1) (73 + k) ((dW_733 x y hxy) k hk)), bP, hqP]
  have rX : zz_tts (zz_XT σ2 (x + 1)) (zz_MT σ2 (y + 1)) := by rw [aX, zz_XT.all (r := x + 1) (fun a ha k => w1 a k ((dW_734 x y hxy) a ha k)), zz_MT.hi (a := y + 1) (b := y + 1) (fun k hk => w2 (y + 1) k ((dW_735 x y hxy) k hk)), bX]; exact hqX
  have rK : (σ2 x 2).toInt = 0 ∨ (zz_DX σ2 (x + 28) = zz_DM σ2 (y + 2) ∧ zz_PX 0 σ2 (x + 28) = zz_PM 0 σ2 (y + 2) ∧ zz_Tp σ2 (x + 28 + 4) (σ2 (x + 28) 9).toInt = zz_Tm σ2 (y + 2) ∧ zz_tts (zz_XT σ2 (x + 28)) (zz_MT σ2 (y + 2))) := hqK.elim (fun q => Or.inl ((congrArg Int32.toInt ((A x 2 (by omega) (by omega)).trans (w1 x 2 (dW_703 x y hxy)))).trans q)) (fun q => Or.inr ⟨by rw [aKD, zz_DXk (r := x + 28) w1 (dW_736 x y hxy), zz_DMk (a := y + 2) w2 (dW_737 x y hxy), bKD, q.1], by rw [aKW, zz_PXk (f := 0) (r := x + 28) w1 (dW_738 x y hxy), zz_PMk (f := 0) (a := y + 2) w2 (dW_739 x y hxy), bKW, q.2.1], by rw [aKP, zz_Tp.all (a := x + 28 + 4) (b := x + 28 + 4) (congrArg Int32.toInt (w1 (x + 28) 9 (dW_740 x y hxy))) (fun k => w1 _ k ((dW_741 x y hxy) k)), zz_Tm.eq (a := y + 2) (b := y + 2) (w2 (y + 2) 5 (dW_742 x y hxy)) hJ1.2.1.2.2.2.2.1.2 (fun k hk => w2 (y + 2) (73 + k) ((dW_743 x y hxy) k hk)), bKP, q.2.2.1], by rw [aKX, zz_XT.all (r := x + 28) (fun a ha k => w1 a k ((dW_744 x y hxy) a ha k)), zz_MT.hi (a := y + 2) (b := y + 2) (fun k hk => w2 (y + 2) k ((dW_745 x y hxy) k hk)), bKX]; exact q.2.2.2⟩)
  have hQ2 : zz_RD σ2 x y := ⟨rD, rW, rK, rB, rN, rC, rL, rT, rP, rX⟩
  refine lv_pop hx hb dL_law_1334 rfl ?_
  refine lv_goto (tgt := 1384) hx hb dL_law_1335 (by decide) ?_
  exact kk _ _ _ hRL hQ2 hP hS
theorem gL_law_X8_count : GoodIn wsL_law (wsV RL 166 RX8 yX8_count wzX8_count) := wz_coL bm_1004 (wz_coL bm_1005 (wz_coL bm_1006 (wz_coL bm_2 (wz_inL bm_1007))))
theorem gL_law_X9_count : GoodIn wsL_law (wsV RL 169 RX9 yX9_count wzX9_count) := wz_coL bm_1008 (wz_coL bm_1009 (wz_coL bm_1010 (wz_coL bm_5 (wz_inL bm_1011))))
set_option maxHeartbeats 4000000 in
set_option maxRecDepth 100000 in
theorem lc_count {p : Program} {l : Launch} {e : Env} {s : State} {m : MethodId} {below : List Frame} {meth : Method} {c : Code} {b L x y : Nat} {xs : Nat → Int32} {E : zz_E} {Q : State → Prop} (hA : zz_LA p s m c b L xs E x y) (i : Int32) (hi : 0 ≤ i.toInt ∧ i.toInt + 6 ≤ L) (σ : zz_S) (H : Heap) (locs : List Loc) (ls : Array Slot) (hR : zz_RL σ x y) (hQ : zz_RD σ x y) (hP : zz_P E σ H) (hS : va_S (zz_A E) s.heap H locs) (hl : lv_has ls 4 [(0, .ref b), (1, .ref x), (2, .ref y), (3, .int i)])
    (kk : ∀ (σ1 : zz_S) (H1 : Heap) (locs1 : List Loc), zz_RL σ1 x y → zz_RD σ1 x y → zz_P E σ1 H1 → va_S (zz_A E) s.heap H1 locs1 → W p l e room_1 s m #[Value.ref b] below meth c H1 locs1 600000 7302250 Q (F0 m 1384 ls [])) : W p l e room_1 s m #[Value.ref b] below meth c H locs 600000 7302250 Q (F0 m 1338 ls []) := by
  obtain ⟨hx, hb, hml, hown, hts, hX, hbl, hbE, hL, gL, gM, hxy, hK⟩ := hA
  have hbA : ¬ zz_A E b := fun h => absurd (hbE b h) (Nat.not_le.mpr hbl)
  have k_1 : (1 : Int32).toInt = 1 := by decide +kernel
  refine lv_aload_n hx hb dL_law_1338 rfl (lv_at hl 1 rfl) ?_
  refine lv_aload_n hx hb dL_law_1339 rfl (lv_at hl 0 rfl) ?_
  refine lv_iload_n hx hb dL_law_1340 rfl (lv_at hl 3 rfl) ?_
  refine lv_iconst (v := 1) hx hb dL_law_1341 (by decide) ?_
  refine lv_iadd hx hb dL_law_1342 ?_
  refine lv_topi (fun n1 e1 => ?_)
  have f1 : n1.toInt = (i).toInt + (1 : Int32).toInt := zz_addT e1 (by omega) (by omega)
  refine va_sld hx hb hX hbl hbA hS (vp_in_iff.mpr ⟨by omega, by omega⟩) dL_law_1343 ?_
  refine lv_topi (fun v2 u2 => ?_)
  refine zz_callVi (As := [.int v2]) (rest := []) ⟨hx, hb, hml, hown, hts⟩ hK hP hS (c_X8_count l E σ x v2 gL hR.1) (cwV 1 hts gL_law_X8_count rfl rfl rfl (by decide +kernel) ⟨Nat.le_of_ble_eq_true rfl, Nat.le_of_ble_eq_true rfl⟩) (gL.1) rfl rfl hl.1 rfl (Nat.le_of_ble_eq_true rfl) dL_law_1344 ⟨Nat.le_refl _, Nat.le_refl _⟩ (fun r1 σ1 H locs q1 hP hS => ?_)
  try dsimp only at q1
  obtain ⟨w1, p1⟩ := q1
  have B : ∀ a k : Nat, y ≤ a → a ≤ y + 12 → σ1 a k = σ a k := fun a k h1 h2 => w1 a k ((dW_45 x y hxy) a k h1 h2)
  have hJ1 : zz_IM σ1 y := hR.2.1.far B
  refine lv_pop hx hb dL_law_1347 rfl ?_
  refine lv_aload_n hx hb dL_law_1348 rfl (lv_at hl 2 rfl) ?_
  refine lv_aload_n hx hb dL_law_1349 rfl (lv_at hl 0 rfl) ?_
  refine lv_iload_n hx hb dL_law_1350 rfl (lv_at hl 3 rfl) ?_
  refine lv_iconst (v := 1) hx hb dL_law_1351 (by decide) ?_
  refine lv_iadd hx hb dL_law_1352 ?_
  refine lv_topi (fun n4 e4 => ?_)
  have f4 : n4.toInt = (i).toInt + (1 : Int32).toInt := zz_addT e4 (by omega) (by omega)
  refine va_sld hx hb hX hbl hbA hS (vp_in_iff.mpr ⟨by omega, by omega⟩) dL_law_1353 ?_
  refine lv_topi (fun v5 u5 => ?_)
  have z5 : v5 = v2 := by rw [u5, u2, e4, e1]
  have zt5 := congrArg Int32.toInt z5
  refine zz_callVi (As := [.int v5]) (rest := []) ⟨hx, hb, hml, hown, hts⟩ hK hP hS (c_X9_count l E σ1 y v5 gM hJ1) (cwV 1 hts gL_law_X9_count rfl rfl rfl (by decide +kernel) ⟨Nat.le_of_ble_eq_true rfl, Nat.le_of_ble_eq_true rfl⟩) (gM.1) rfl rfl hl.1 rfl (Nat.le_of_ble_eq_true rfl) dL_law_1354 ⟨Nat.le_refl _, Nat.le_refl _⟩ (fun r2 σ2 H locs q2 hP hS => ?_)
  try dsimp only at q2
  obtain ⟨w2, p2⟩ := q2
  have A : ∀ a k : Nat, x ≤ a → a < x + 76 → σ2 a k = σ1 a k := fun a k h1 h2 => w2 a k ((dW_46 x y hxy) a k h1 h2)
  have i1 : zz_IX σ1 x := hR.1.soft (w1.mono (dW_47 x y hxy))
  have i2 : zz_IM σ2 y := hJ1.soft (w2.mono (dW_48 x y hxy))
  try simp only [z5] at p2
  have hRL : zz_RL σ2 x y := hR.soft i1 i2 A B (fun k => w1 (x + 1) k ((dW_54 x y hxy) k)) (fun k hk => w2 (y + 1) k ((dW_49 x y hxy) k hk)) (fun k => w1 (x + 28) k ((dW_50 x y hxy) k)) (w1 x 2 (dW_51 x y hxy)) (fun k => w2 (y + 2) k ((dW_52 x y hxy) k)) (w2 y 2 (dW_53 x y hxy))
  obtain ⟨hqD, hqW, hqK, hqB, hqN, hqC, hqL, hqT, hqP, hqX⟩ := hQ
  obtain ⟨aD, aW, aKD, aKW, aB, aN, aC, aL, aT, aP, aX, aKP, aKX⟩ := zz_aX A
  obtain ⟨bD, bW, bKD, bKW, bB, bN, bC, bL, bT, bP, bX, bKP, bKX⟩ := zz_bM hR.2.1 B
  have rD : zz_DX σ2 (x + 1) = zz_DM σ2 (y + 1) := by rw [aD, zz_DXk (r := x + 1) w1 (dW_55 x y hxy), zz_DMk (a := y + 1) w2 (dW_56 x y hxy), bD, hqD]
  have rW : zz_PX 0 σ2 (x + 1) = zz_PM 0 σ2 (y + 1) := by rw [aW, zz_PXk (f := 0) (r := x + 1) w1 (dW_57 x y hxy), zz_PMk (f := 0) (a := y + 1) w2 (dW_58 x y hxy), bW, hqW]
  have rB : zz_HX 0 σ2 x = zz_HM σ2 (y + 4) := by rw [aB, zz_HX.eq (f := 0) (x := x) (fun j hj => w1 _ _ ((dW_59 x y hxy) j hj)), zz_HM.eq (a := y + 4) (fun j hj => w2 _ _ ((dW_60 x y hxy) j hj)), bB, hqB]
  have rN : zz_HX 1 σ2 x = zz_HM σ2 (y + 5) := by rw [aN, zz_HX.eq (f := 1) (x := x) (fun j hj => w1 _ _ ((dW_59 x y hxy) j hj)), zz_HM.eq (a := y + 5) (fun j hj => w2 _ _ ((dW_61 x y hxy) j hj)), bN, hqN]
  have rC : zz_CX σ2 x = zz_CM σ2 (y + 6) := by rw [aC, zz_CX.eq (x := x) (fun j hj k hk => w1 _ _ ((dW_62 x y hxy) j hj k hk)), zz_CM.eq (a := y + 6) (fun k hk => w2 _ _ ((dW_63 x y hxy) k hk)), bC, hqC]
  have rL : (σ2 (x + 56) 1).toInt = (σ2 y 18).toInt := by rw [aL, congrArg Int32.toInt (w1 (x + 56) 1 (dW_64 x y hxy)), congrArg Int32.toInt (w2 y 18 (dW_53 x y hxy)), bL, hqL]
  have rT : zz_TV σ2 (x + 56 + 1) = zz_TV σ2 (y + 12) := by rw [aT, zz_TV.eq (a := x + 56 + 1) (b := x + 56 + 1) (fun k _ => w1 _ k ((dW_65 x y hxy) k)), zz_TV.eq (a := y + 12) (b := y + 12) (fun k _ => w2 _ k ((dW_66 x y hxy) k)), bT, hqT]
  have rP : zz_Tp σ2 (x + 1 + 4) (σ2 (x + 1) 9).toInt = zz_Tm σ2 (y + 1) := by rw [aP, zz_Tp.all (a := x + 1 + 4) (b := x + 1 + 4) (congrArg Int32.toInt (w1 (x + 1) 9 (dW_67 x y hxy))) (fun k => w1 _ k ((dW_68 x y hxy) k)), zz_Tm.eq (a := y + 1) (b := y + 1) (w2 (y + 1) 5 (dW_69 x y hxy)) hJ1.1.2.2.2.2.1.2 (fun k hk => w2 (y + 1) (73 + k) ((dW_70 x y hxy) k hk)), bP, hqP]
  have rX : zz_tts (zz_XT σ2 (x + 1)) (zz_MT σ2 (y + 1)) := by rw [aX, zz_XT.all (r := x + 1) (fun a ha k => w1 a k ((dW_71 x y hxy) a ha k)), zz_MT.hi (a := y + 1) (b := y + 1) (fun k hk => w2 (y + 1) k ((dW_72 x y hxy) k hk)), bX]; exact hqX
  have rK : (σ2 x 2).toInt = 0 ∨ (zz_DX σ2 (x + 28) = zz_DM σ2 (y + 2) ∧ zz_PX 0 σ2 (x + 28) = zz_PM 0 σ2 (y + 2) ∧ zz_Tp σ2 (x + 28 + 4) (σ2 (x + 28) 9).toInt = zz_Tm σ2 (y + 2) ∧ zz_tts (zz_XT σ2 (x + 28)) (zz_MT σ2 (y + 2))) := hqK.elim (fun q => Or.inl ((congrArg Int32.toInt ((A x 2 (by omega) (by omega)).trans (w1 x 2 (dW_51 x y hxy)))).trans q)) (fun q => Or.inr ⟨by rw [aKD, zz_DXk (r := x + 28) w1 (dW_73 x y hxy), zz_DMk (a := y + 2) w2 (dW_74 x y hxy), bKD, q.1], by rw [aKW, zz_PXk (f := 0) (r := x + 28) w1 (dW_75 x y hxy), zz_PMk (f := 0) (a := y + 2) w2 (dW_76 x y hxy), bKW, q.2.1], by rw [aKP, zz_Tp.all (a := x + 28 + 4) (b := x + 28 + 4) (congrArg Int32.toInt (w1 (x + 28) 9 (dW_77 x y hxy))) (fun k => w1 _ k ((dW_78 x y hxy) k)), zz_Tm.eq (a := y + 2) (b := y + 2) (w2 (y + 2) 5 (dW_79 x y hxy)) hJ1.2.1.2.2.2.2.1.2 (fun k hk => w2 (y + 2) (73 + k) ((dW_80 x y hxy) k hk)), bKP, q.2.2.1], by rw [aKX, zz_XT.all (r := x + 28) (fun a ha k => w1 a k ((dW_81 x y hxy) a ha k)), zz_MT.hi (a := y + 2) (b := y + 2) (fun k hk => w2 (y + 2) k ((dW_82 x y hxy) k hk)), bKX]; exact q.2.2.2⟩)
  have hQ2 : zz_RD σ2 x y := ⟨rD, rW, rK, rB, rN, rC, rL, rT, rP, rX⟩
  refine lv_pop hx hb dL_law_1357 rfl ?_
  refine lv_goto (tgt := 1384) hx hb dL_law_1358 (by decide) ?_
  exact kk _ _ _ hRL hQ2 hP hS
theorem gL_law_X8_told : GoodIn wsL_law (wsV RL 170 RX8 yX8_told wzX8_told) := wz_coL bm_1012 (wz_coL bm_1013 (wz_coL bm_1014 (wz_coL bm_2 (wz_inL bm_1015))))
theorem gL_law_X9_told : GoodIn wsL_law (wsV RL 173 RX9 yX9_told wzX9_told) := wz_coL bm_1016 (wz_coL bm_1017 (wz_coL bm_1018 (wz_coL bm_5 (wz_inL bm_1019))))
set_option maxHeartbeats 4000000 in
set_option maxRecDepth 100000 in
theorem lc_told {p : Program} {l : Launch} {e : Env} {s : State} {m : MethodId} {below : List Frame} {meth : Method} {c : Code} {b L x y : Nat} {xs : Nat → Int32} {E : zz_E} {Q : State → Prop} (hA : zz_LA p s m c b L xs E x y) (i : Int32) (hi : 0 ≤ i.toInt ∧ i.toInt + 6 ≤ L) (σ : zz_S) (H : Heap) (locs : List Loc) (ls : Array Slot) (hR : zz_RL σ x y) (hQ : zz_RD σ x y) (hP : zz_P E σ H) (hS : va_S (zz_A E) s.heap H locs) (hl : lv_has ls 4 [(0, .ref b), (1, .ref x), (2, .ref y), (3, .int i)])
    (kk : ∀ (σ1 : zz_S) (H1 : Heap) (locs1 : List Loc), zz_RL σ1 x y → zz_RD σ1 x y → zz_P E σ1 H1 → va_S (zz_A E) s.heap H1 locs1 → W p l e room_1 s m #[Value.ref b] below meth c H1 locs1 600000 7302250 Q (F0 m 1384 ls [])) : W p l e room_1 s m #[Value.ref b] below meth c H locs 600000 7302250 Q (F0 m 1361 ls []) := by
  obtain ⟨hx, hb, hml, hown, hts, hX, hbl, hbE, hL, gL, gM, hxy, hK⟩ := hA
  have hbA : ¬ zz_A E b := fun h => absurd (hbE b h) (Nat.not_le.mpr hbl)
  have k_1 : (1 : Int32).toInt = 1 := by decide +kernel
  refine lv_aload_n hx hb dL_law_1361 rfl (lv_at hl 1 rfl) ?_
  refine lv_aload_n hx hb dL_law_1362 rfl (lv_at hl 0 rfl) ?_
  refine lv_iload_n hx hb dL_law_1363 rfl (lv_at hl 3 rfl) ?_
  refine lv_iconst (v := 1) hx hb dL_law_1364 (by decide) ?_
  refine lv_iadd hx hb dL_law_1365 ?_
  refine lv_topi (fun n1 e1 => ?_)
  have f1 : n1.toInt = (i).toInt + (1 : Int32).toInt := zz_addT e1 (by omega) (by omega)
  refine va_sld hx hb hX hbl hbA hS (vp_in_iff.mpr ⟨by omega, by omega⟩) dL_law_1366 ?_
  refine lv_topi (fun v2 u2 => ?_)
  refine zz_callVi (As := [.int v2]) (rest := []) ⟨hx, hb, hml, hown, hts⟩ hK hP hS (c_X8_told l E σ x v2 gL hR.1) (cwV 1 hts gL_law_X8_told rfl rfl rfl (by decide +kernel) ⟨Nat.le_of_ble_eq_true rfl, Nat.le_of_ble_eq_true rfl⟩) (gL.1) rfl rfl hl.1 rfl (Nat.le_of_ble_eq_true rfl) dL_law_1367 ⟨Nat.le_refl _, Nat.le_refl _⟩ (fun r1 σ1 H locs q1 hP hS => ?_)
  try dsimp only at q1
  obtain ⟨w1, p1⟩ := q1
  have B : ∀ a k : Nat, y ≤ a → a ≤ y + 12 → σ1 a k = σ a k := fun a k h1 h2 => w1 a k ((dW_45 x y hxy) a k h1 h2)
  have hJ1 : zz_IM σ1 y := hR.2.1.far B
  refine lv_pop hx hb dL_law_1370 rfl ?_
  refine lv_aload_n hx hb dL_law_1371 rfl (lv_at hl 2 rfl) ?_
  refine lv_aload_n hx hb dL_law_1372 rfl (lv_at hl 0 rfl) ?_
  refine lv_iload_n hx hb dL_law_1373 rfl (lv_at hl 3 rfl) ?_
  refine lv_iconst (v := 1) hx hb dL_law_1374 (by decide) ?_
  refine lv_iadd hx hb dL_law_1375 ?_
  refine lv_topi (fun n4 e4 => ?_)
  have f4 : n4.toInt = (i).toInt + (1 : Int32).toInt := zz_addT e4 (by omega) (by omega)
  refine va_sld hx hb hX hbl hbA hS (vp_in_iff.mpr ⟨by omega, by omega⟩) dL_law_1376 ?_
  refine lv_topi (fun v5 u5 => ?_)
  have z5 : v5 = v2 := by rw [u5, u2, e4, e1]
  have zt5 := congrArg Int32.toInt z5
  refine zz_callVi (As := [.int v5]) (rest := []) ⟨hx, hb, hml, hown, hts⟩ hK hP hS (c_X9_told l E σ1 y v5 gM hJ1) (cwV 1 hts gL_law_X9_told rfl rfl rfl (by decide +kernel) ⟨Nat.le_of_ble_eq_true rfl, Nat.le_of_ble_eq_true rfl⟩) (gM.1) rfl rfl hl.1 rfl (Nat.le_of_ble_eq_true rfl) dL_law_1377 ⟨Nat.le_refl _, Nat.le_refl _⟩ (fun r2 σ2 H locs q2 hP hS => ?_)
  try dsimp only at q2
  obtain ⟨w2, p2⟩ := q2
  have A : ∀ a k : Nat, x ≤ a → a < x + 76 → σ2 a k = σ1 a k := fun a k h1 h2 => w2 a k ((dW_46 x y hxy) a k h1 h2)
  have i1 : zz_IX σ1 x := hR.1.soft (w1.mono (dW_47 x y hxy))
  have i2 : zz_IM σ2 y := hJ1.soft (w2.mono (dW_48 x y hxy))
  try simp only [z5] at p2
  have hRL : zz_RL σ2 x y := hR.soft i1 i2 A B (fun k => w1 (x + 1) k ((dW_54 x y hxy) k)) (fun k hk => w2 (y + 1) k ((dW_49 x y hxy) k hk)) (fun k => w1 (x + 28) k ((dW_50 x y hxy) k)) (w1 x 2 (dW_51 x y hxy)) (fun k => w2 (y + 2) k ((dW_52 x y hxy) k)) (w2 y 2 (dW_53 x y hxy))
  obtain ⟨hqD, hqW, hqK, hqB, hqN, hqC, hqL, hqT, hqP, hqX⟩ := hQ
  obtain ⟨aD, aW, aKD, aKW, aB, aN, aC, aL, aT, aP, aX, aKP, aKX⟩ := zz_aX A
  obtain ⟨bD, bW, bKD, bKW, bB, bN, bC, bL, bT, bP, bX, bKP, bKX⟩ := zz_bM hR.2.1 B
  have rD : zz_DX σ2 (x + 1) = zz_DM σ2 (y + 1) := by rw [aD, zz_DXk (r := x + 1) w1 (dW_55 x y hxy), zz_DMk (a := y + 1) w2 (dW_56 x y hxy), bD, hqD]
  have rW : zz_PX 0 σ2 (x + 1) = zz_PM 0 σ2 (y + 1) := by rw [aW, zz_PXk (f := 0) (r := x + 1) w1 (dW_57 x y hxy), zz_PMk (f := 0) (a := y + 1) w2 (dW_58 x y hxy), bW, hqW]
  have rB : zz_HX 0 σ2 x = zz_HM σ2 (y + 4) := by rw [aB, zz_HX.eq (f := 0) (x := x) (fun j hj => w1 _ _ ((dW_59 x y hxy) j hj)), zz_HM.eq (a := y + 4) (fun j hj => w2 _ _ ((dW_60 x y hxy) j hj)), bB, hqB]
  have rN : zz_HX 1 σ2 x = zz_HM σ2 (y + 5) := by rw [aN, zz_HX.eq (f := 1) (x := x) (fun j hj => w1 _ _ ((dW_59 x y hxy) j hj)), zz_HM.eq (a := y + 5) (fun j hj => w2 _ _ ((dW_61 x y hxy) j hj)), bN, hqN]
  have rC : zz_CX σ2 x = zz_CM σ2 (y + 6) := by rw [aC, zz_CX.eq (x := x) (fun j hj k hk => w1 _ _ ((dW_62 x y hxy) j hj k hk)), zz_CM.eq (a := y + 6) (fun k hk => w2 _ _ ((dW_63 x y hxy) k hk)), bC, hqC]
  have rL : (σ2 (x + 56) 1).toInt = (σ2 y 18).toInt := by rw [aL, congrArg Int32.toInt (w1 (x + 56) 1 (dW_64 x y hxy)), congrArg Int32.toInt (w2 y 18 (dW_53 x y hxy)), bL, hqL]
  have rT : zz_TV σ2 (x + 56 + 1) = zz_TV σ2 (y + 12) := by rw [aT, zz_TV.eq (a := x + 56 + 1) (b := x + 56 + 1) (fun k _ => w1 _ k ((dW_65 x y hxy) k)), zz_TV.eq (a := y + 12) (b := y + 12) (fun k _ => w2 _ k ((dW_66 x y hxy) k)), bT, hqT]
  have rP : zz_Tp σ2 (x + 1 + 4) (σ2 (x + 1) 9).toInt = zz_Tm σ2 (y + 1) := by rw [aP, zz_Tp.all (a := x + 1 + 4) (b := x + 1 + 4) (congrArg Int32.toInt (w1 (x + 1) 9 (dW_67 x y hxy))) (fun k => w1 _ k ((dW_68 x y hxy) k)), zz_Tm.eq (a := y + 1) (b := y + 1) (w2 (y + 1) 5 (dW_69 x y hxy)) hJ1.1.2.2.2.2.1.2 (fun k hk => w2 (y + 1) (73 + k) ((dW_70 x y hxy) k hk)), bP, hqP]
  have rX : zz_tts (zz_XT σ2 (x + 1)) (zz_MT σ2 (y + 1)) := by rw [aX, zz_XT.all (r := x + 1) (fun a ha k => w1 a k ((dW_71 x y hxy) a ha k)), zz_MT.hi (a := y + 1) (b := y + 1) (fun k hk => w2 (y + 1) k ((dW_72 x y hxy) k hk)), bX]; exact hqX
  have rK : (σ2 x 2).toInt = 0 ∨ (zz_DX σ2 (x + 28) = zz_DM σ2 (y + 2) ∧ zz_PX 0 σ2 (x + 28) = zz_PM 0 σ2 (y + 2) ∧ zz_Tp σ2 (x + 28 + 4) (σ2 (x + 28) 9).toInt = zz_Tm σ2 (y + 2) ∧ zz_tts (zz_XT σ2 (x + 28)) (zz_MT σ2 (y + 2))) := hqK.elim (fun q => Or.inl ((congrArg Int32.toInt ((A x 2 (by omega) (by omega)).trans (w1 x 2 (dW_51 x y hxy)))).trans q)) (fun q => Or.inr ⟨by rw [aKD, zz_DXk (r := x + 28) w1 (dW_73 x y hxy), zz_DMk (a := y + 2) w2 (dW_74 x y hxy), bKD, q.1], by rw [aKW, zz_PXk (f := 0) (r := x + 28) w1 (dW_75 x y hxy), zz_PMk (f := 0) (a := y + 2) w2 (dW_76 x y hxy), bKW, q.2.1], by rw [aKP, zz_Tp.all (a := x + 28 + 4) (b := x + 28 + 4) (congrArg Int32.toInt (w1 (x + 28) 9 (dW_77 x y hxy))) (fun k => w1 _ k ((dW_78 x y hxy) k)), zz_Tm.eq (a := y + 2) (b := y + 2) (w2 (y + 2) 5 (dW_79 x y hxy)) hJ1.2.1.2.2.2.2.1.2 (fun k hk => w2 (y + 2) (73 + k) ((dW_80 x y hxy) k hk)), bKP, q.2.2.1], by rw [aKX, zz_XT.all (r := x + 28) (fun a ha k => w1 a k ((dW_81 x y hxy) a ha k)), zz_MT.hi (a := y + 2) (b := y + 2) (fun k hk => w2 (y + 2) k ((dW_82 x y hxy) k hk)), bKX]; exact q.2.2.2⟩)
  have hQ2 : zz_RD σ2 x y := ⟨rD, rW, rK, rB, rN, rC, rL, rT, rP, rX⟩
  refine lv_pop hx hb dL_law_1380 rfl ?_
  refine lv_goto (tgt := 1384) hx hb dL_law_1381 (by decide) ?_
  exact kk _ _ _ hRL hQ2 hP hS
