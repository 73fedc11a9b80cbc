theorem gL_law_X8_siestas : GoodIn wsL_law (wsV RL 100 RX8 yX8_siestas wzX8_siestas) := wz_coL bm_688 (wz_coL bm_689 (wz_coL bm_690 (wz_coL bm_2 (wz_inL bm_691))))
theorem gL_law_X9_siestas : GoodIn wsL_law (wsV RL 103 RX9 yX9_siestas wzX9_siestas) := wz_coL bm_692 (wz_coL bm_693 (wz_coL bm_694 (wz_coL bm_5 (wz_inL bm_695))))
set_option maxHeartbeats 4000000 in
set_option maxRecDepth 100000 in
theorem lc_siestas {p : Program} {l : Launch} {e : Env} {s : State} {m : MethodId} {below : List Frame} {meth : Method} {c : Code} {b L x y : Nat} {xs : Nat → Int32} {E : zz_E} {Q : State → Prop} (hA : zz_LA p s m c b L xs E x y) (i : Int32) (hi : 0 ≤ i.toInt ∧ i.toInt + 6 ≤ L) (σ : zz_S) (H : Heap) (locs : List Loc) (ls : Array Slot) (hR : zz_RL σ x y) (hQ : zz_RD σ x y) (hP : zz_P E σ H) (hS : va_S (zz_A E) s.heap H locs) (hl : lv_has ls 4 [(0, .ref b), (1, .ref x), (2, .ref y), (3, .int i)])
    (kk : ∀ (σ1 : zz_S) (H1 : Heap) (locs1 : List Loc), zz_RL σ1 x y → zz_RD σ1 x y → zz_P E σ1 H1 → va_S (zz_A E) s.heap H1 locs1 → W p l e room_1 s m #[Value.ref b] below meth c H1 locs1 600000 7302250 Q (F0 m 1384 ls [])) : W p l e room_1 s m #[Value.ref b] below meth c H locs 600000 7302250 Q (F0 m 850 ls []) := by
  obtain ⟨hx, hb, hml, hown, hts, hX, hbl, hbE, hL, gL, gM, hxy, hK⟩ := hA
  have hbA : ¬ zz_A E b := fun h => absurd (hbE b h) (Nat.not_le.mpr hbl)
  have k_1 : (1 : Int32).toInt = 1 := by decide +kernel
  refine lv_aload_n hx hb dL_law_850 rfl (lv_at hl 1 rfl) ?_
  refine lv_aload_n hx hb dL_law_851 rfl (lv_at hl 0 rfl) ?_
  refine lv_iload_n hx hb dL_law_852 rfl (lv_at hl 3 rfl) ?_
  refine lv_iconst (v := 1) hx hb dL_law_853 (by decide) ?_
  refine lv_iadd hx hb dL_law_854 ?_
  refine lv_topi (fun n1 e1 => ?_)
  have f1 : n1.toInt = (i).toInt + (1 : Int32).toInt := zz_addT e1 (by omega) (by omega)
  refine va_sld hx hb hX hbl hbA hS (vp_in_iff.mpr ⟨by omega, by omega⟩) dL_law_855 ?_
  refine lv_topi (fun v2 u2 => ?_)
  refine zz_callVi (As := [.int v2]) (rest := []) ⟨hx, hb, hml, hown, hts⟩ hK hP hS (c_X8_siestas l E σ x v2 gL hR.1 (zy_KK σ x y) (zy_KX hR hQ)) (cwV 1 hts gL_law_X8_siestas rfl rfl rfl (by decide +kernel) ⟨Nat.le_of_ble_eq_true rfl, Nat.le_of_ble_eq_true rfl⟩) (gL.1) rfl rfl hl.1 rfl (Nat.le_of_ble_eq_true rfl) dL_law_856 ⟨Nat.le_refl _, Nat.le_refl _⟩ (fun r1 σ1 H locs q1 hP hS => ?_)
  try dsimp only at q1
  obtain ⟨w1, p1⟩ := q1
  have B : ∀ a k : Nat, y ≤ a → a ≤ y + 12 → σ1 a k = σ a k := fun a k h1 h2 => w1 a k ((dW_55 x y hxy) a k h1 h2)
  have hJ1 : zz_IM σ1 y := hR.2.1.far B
  refine lv_pop hx hb dL_law_859 rfl ?_
  refine lv_aload_n hx hb dL_law_860 rfl (lv_at hl 2 rfl) ?_
  refine lv_aload_n hx hb dL_law_861 rfl (lv_at hl 0 rfl) ?_
  refine lv_iload_n hx hb dL_law_862 rfl (lv_at hl 3 rfl) ?_
  refine lv_iconst (v := 1) hx hb dL_law_863 (by decide) ?_
  refine lv_iadd hx hb dL_law_864 ?_
  refine lv_topi (fun n4 e4 => ?_)
  have f4 : n4.toInt = (i).toInt + (1 : Int32).toInt := zz_addT e4 (by omega) (by omega)
  refine va_sld hx hb hX hbl hbA hS (vp_in_iff.mpr ⟨by omega, by omega⟩) dL_law_865 ?_
  refine lv_topi (fun v5 u5 => ?_)
  have z5 : v5 = v2 := by rw [u5, u2, e4, e1]
  have zt5 := congrArg Int32.toInt z5
  refine zz_callVi (As := [.int v5]) (rest := []) ⟨hx, hb, hml, hown, hts⟩ hK hP hS (c_X9_siestas l E σ1 y v5 gM hJ1 (zy_KK σ x y) (zy_KY hR hQ B)) (cwV 1 hts gL_law_X9_siestas rfl rfl rfl (by decide +kernel) ⟨Nat.le_of_ble_eq_true rfl, Nat.le_of_ble_eq_true rfl⟩) (gM.1) rfl rfl hl.1 rfl (Nat.le_of_ble_eq_true rfl) dL_law_866 ⟨Nat.le_refl _, Nat.le_refl _⟩ (fun r2 σ2 H locs q2 hP hS => ?_)
  try dsimp only at q2
  obtain ⟨w2, p2⟩ := q2
  have A : ∀ a k : Nat, x ≤ a → a < x + 76 → σ2 a k = σ1 a k := fun a k h1 h2 => w2 a k ((dW_56 x y hxy) a k h1 h2)
  have i1 : zz_IX σ1 x := hR.1.soft (w1.mono (dW_57 x y hxy))
  have i2 : zz_IM σ2 y := hJ1.soft (w2.mono (dW_58 x y hxy))
  try simp only [z5] at p2
  have hRL : zz_RL σ2 x y := hR.soft i1 i2 A B (fun k => w1 (x + 1) k ((dW_64 x y hxy) k)) (fun k hk => w2 (y + 1) k ((dW_59 x y hxy) k hk)) (fun k => w1 (x + 28) k ((dW_60 x y hxy) k)) (w1 x 2 (dW_61 x y hxy)) (fun k => w2 (y + 2) k ((dW_62 x y hxy) k)) (w2 y 2 (dW_63 x y hxy))
  obtain ⟨hqD, hqW, hqK, hqB, hqN, hqC, hqL, hqT, hqP, hqX, hqF, hqG, hqV⟩ := hQ
  obtain ⟨aD, aW, aKD, aKW, aB, aN, aC, aL, aT, aP, aX, aKP, aKX⟩ := zz_aX A
  obtain ⟨bD, bW, bKD, bKW, bB, bN, bC, bL, bT, bP, bX, bKP, bKX⟩ := zz_bM hR.2.1 B
  obtain ⟨aF, aKF, aV, aKV⟩ := zy_aX2 A
  obtain ⟨bF, bKF, bV, bKV⟩ := zy_bM2 B
  have rD : zz_DX σ2 (x + 1) = zz_DM σ2 (y + 1) := by rw [aD, zz_DXk (r := x + 1) w1 (dW_65 x y hxy), zz_DMk (a := y + 1) w2 (dW_66 x y hxy), bD, hqD]
  have rW : zz_PX 0 σ2 (x + 1) = zz_PM 0 σ2 (y + 1) := by rw [aW, zz_PXk (f := 0) (r := x + 1) w1 (dW_67 x y hxy), zz_PMk (f := 0) (a := y + 1) w2 (dW_68 x y hxy), bW, hqW]
  have rB : zz_HX 0 σ2 x = zz_HM σ2 (y + 4) := by rw [aB, zz_HX.eq (f := 0) (x := x) (fun j hj => w1 _ _ ((dW_69 x y hxy) j hj)), zz_HM.eq (a := y + 4) (fun j hj => w2 _ _ ((dW_70 x y hxy) j hj)), bB, hqB]
  have rN : zz_HX 1 σ2 x = zz_HM σ2 (y + 5) := by rw [aN, zz_HX.eq (f := 1) (x := x) (fun j hj => w1 _ _ ((dW_69 x y hxy) j hj)), zz_HM.eq (a := y + 5) (fun j hj => w2 _ _ ((dW_71 x y hxy) j hj)), bN, hqN]
  have rC : zz_CX σ2 x = zz_CM σ2 (y + 6) := by rw [aC, zz_CX.eq (x := x) (fun j hj k hk => w1 _ _ ((dW_72 x y hxy) j hj k hk)), zz_CM.eq (a := y + 6) (fun k hk => w2 _ _ ((dW_73 x y hxy) k hk)), bC, hqC]
  have rL : (σ2 (x + 56) 1).toInt = (σ2 y 18).toInt := by rw [aL, congrArg Int32.toInt (w1 (x + 56) 1 (dW_74 x y hxy)), congrArg Int32.toInt (w2 y 18 (dW_63 x y hxy)), bL, hqL]
  have rT : zz_TV σ2 (x + 56 + 1) = zz_TV σ2 (y + 12) := by rw [aT, zz_TV.eq (a := x + 56 + 1) (b := x + 56 + 1) (fun k _ => w1 _ k ((dW_75 x y hxy) k)), zz_TV.eq (a := y + 12) (b := y + 12) (fun k _ => w2 _ k ((dW_76 x y hxy) k)), bT, hqT]
  have rP : zz_Tp σ2 (x + 1 + 4) (σ2 (x + 1) 9).toInt = zz_Tm σ2 (y + 1) := by rw [aP, zz_Tp.all (a := x + 1 + 4) (b := x + 1 + 4) (congrArg Int32.toInt (w1 (x + 1) 9 (dW_77 x y hxy))) (fun k => w1 _ k ((dW_78 x y hxy) k)), zz_Tm.eq (a := y + 1) (b := y + 1) (w2 (y + 1) 5 (dW_79 x y hxy)) hJ1.1.2.2.2.2.1.2 (fun k hk => w2 (y + 1) (73 + k) ((dW_80 x y hxy) k hk)), bP, hqP]
  have rX : zz_tts (zz_XT σ2 (x + 1)) (zz_MT σ2 (y + 1)) := by rw [aX, zz_XT.all (r := x + 1) (fun a ha k => w1 a k ((dW_81 x y hxy) a ha k)), zz_MT.hi (a := y + 1) (b := y + 1) (fun k hk => w2 (y + 1) k ((dW_82 x y hxy) k hk)), bX]; exact hqX
  have rF : zz_PX 1 σ2 (x + 1) = zz_PM 1 σ2 (y + 1) := by rw [aF, zz_PXk (f := 1) (r := x + 1) w1 (dW_67 x y hxy), zz_PMk (f := 1) (a := y + 1) w2 (dW_68 x y hxy), bF, hqF]
  have rV : zy_wv σ2 (x + 1 + 5) 0 (σ2 (x + 1) 11).toInt = zy_wv σ2 (y + 1) 133 (σ2 (y + 1) 6).toInt := by rw [aV, zy_wv.eq (a := x + 1 + 5) (a1 := x + 1 + 5) (b := 0) (b1 := 0) (congrArg Int32.toInt (w1 (x + 1) 11 (dW_77 x y hxy))) (fun k hk => w1 (x + 1 + 5) (0 + k) ((dW_83 x y hxy) k hk)), zy_wv.eq (a := y + 1) (a1 := y + 1) (b := 133) (b1 := 133) (congrArg Int32.toInt (w2 (y + 1) 6 (dW_79 x y hxy))) (fun k hk => w2 (y + 1) (133 + k) ((dW_84 x y hxy) k hk)), bV, hqV]
  have rG : zy_FB (zz_PM 1 σ2 (y + 1)) := by rw [zz_PMk (f := 1) (a := y + 1) w2 (dW_68 x y hxy), bF]; exact hqG
  have rK : (σ2 x 2).toInt = 0 ∨ (zz_DX σ2 (x + 28) = zz_DM σ2 (y + 2) ∧ zz_PX 0 σ2 (x + 28) = zz_PM 0 σ2 (y + 2) ∧ zz_Tp σ2 (x + 28 + 4) (σ2 (x + 28) 9).toInt = zz_Tm σ2 (y + 2) ∧ zz_tts (zz_XT σ2 (x + 28)) (zz_MT σ2 (y + 2)) ∧ zz_PX 1 σ2 (x + 28) = zz_PM 1 σ2 (y + 2) ∧ zy_FB (zz_PM 1 σ2 (y + 2)) ∧ zy_wv σ2 (x + 28 + 5) 0 (σ2 (x + 28) 11).toInt = zy_wv σ2 (y + 2) 133 (σ2 (y + 2) 6).toInt) := hqK.elim (fun q => Or.inl ((congrArg Int32.toInt ((A x 2 (by omega) (by omega)).trans (w1 x 2 (dW_61 x y hxy)))).trans q)) (fun q => Or.inr ⟨by rw [aKD, zz_DXk (r := x + 28) w1 (dW_85 x y hxy), zz_DMk (a := y + 2) w2 (dW_86 x y hxy), bKD, q.1], by rw [aKW, zz_PXk (f := 0) (r := x + 28) w1 (dW_87 x y hxy), zz_PMk (f := 0) (a := y + 2) w2 (dW_88 x y hxy), bKW, q.2.1], by rw [aKP, zz_Tp.all (a := x + 28 + 4) (b := x + 28 + 4) (congrArg Int32.toInt (w1 (x + 28) 9 (dW_89 x y hxy))) (fun k => w1 _ k ((dW_90 x y hxy) k)), zz_Tm.eq (a := y + 2) (b := y + 2) (w2 (y + 2) 5 (dW_91 x y hxy)) hJ1.2.1.2.2.2.2.1.2 (fun k hk => w2 (y + 2) (73 + k) ((dW_92 x y hxy) k hk)), bKP, q.2.2.1], by rw [aKX, zz_XT.all (r := x + 28) (fun a ha k => w1 a k ((dW_93 x y hxy) a ha k)), zz_MT.hi (a := y + 2) (b := y + 2) (fun k hk => w2 (y + 2) k ((dW_94 x y hxy) k hk)), bKX]; exact q.2.2.2.1, by rw [aKF, zz_PXk (f := 1) (r := x + 28) w1 (dW_87 x y hxy), zz_PMk (f := 1) (a := y + 2) w2 (dW_88 x y hxy), bKF, q.2.2.2.2.1], by rw [zz_PMk (f := 1) (a := y + 2) w2 (dW_88 x y hxy), bKF]; exact q.2.2.2.2.2.1, by rw [aKV, zy_wv.eq (a := x + 28 + 5) (a1 := x + 28 + 5) (b := 0) (b1 := 0) (congrArg Int32.toInt (w1 (x + 28) 11 (dW_89 x y hxy))) (fun k hk => w1 (x + 28 + 5) (0 + k) ((dW_95 x y hxy) k hk)), zy_wv.eq (a := y + 2) (a1 := y + 2) (b := 133) (b1 := 133) (congrArg Int32.toInt (w2 (y + 2) 6 (dW_91 x y hxy))) (fun k hk => w2 (y + 2) (133 + k) ((dW_96 x y hxy) k hk)), bKV, q.2.2.2.2.2.2]⟩)
  have hQ2 : zz_RD σ2 x y := ⟨rD, rW, rK, rB, rN, rC, rL, rT, rP, rX, rF, rG, rV⟩
  refine lv_pop hx hb dL_law_869 rfl ?_
  refine lv_goto (tgt := 1384) hx hb dL_law_870 (by decide) ?_
  exact kk _ _ _ hRL hQ2 hP hS
theorem gL_law_X8_best : GoodIn wsL_law (wsV RL 104 RX8 yX8_best wzX8_best) := wz_coL bm_696 (wz_coL bm_697 (wz_coL bm_698 (wz_coL bm_2 (wz_inL bm_699))))
theorem gL_law_X9_best : GoodIn wsL_law (wsV RL 107 RX9 yX9_best wzX9_best) := wz_coL bm_704 (wz_coL bm_705 (wz_coL bm_706 (wz_coL bm_5 (wz_inL bm_707))))
set_option maxHeartbeats 4000000 in
set_option maxRecDepth 100000 in
theorem lc_best {p : Program} {l : Launch} {e : Env} {s : State} {m : MethodId} {below : List Frame} {meth : Method} {c : Code} {b L x y : Nat} {xs : Nat → Int32} {E : zz_E} {Q : State → Prop} (hA : zz_LA p s m c b L xs E x y) (i : Int32) (hi : 0 ≤ i.toInt ∧ i.toInt + 6 ≤ L) (σ : zz_S) (H : Heap) (locs : List Loc) (ls : Array Slot) (hR : zz_RL σ x y) (hQ : zz_RD σ x y) (hP : zz_P E σ H) (hS : va_S (zz_A E) s.heap H locs) (hl : lv_has ls 4 [(0, .ref b), (1, .ref x), (2, .ref y), (3, .int i)])
    (kk : ∀ (σ1 : zz_S) (H1 : Heap) (locs1 : List Loc), zz_RL σ1 x y → zz_RD σ1 x y → zz_P E σ1 H1 → va_S (zz_A E) s.heap H1 locs1 → W p l e room_1 s m #[Value.ref b] below meth c H1 locs1 600000 7302250 Q (F0 m 1384 ls [])) : W p l e room_1 s m #[Value.ref b] below meth c H locs 600000 7302250 Q (F0 m 873 ls []) := by
  obtain ⟨hx, hb, hml, hown, hts, hX, hbl, hbE, hL, gL, gM, hxy, hK⟩ := hA
  have hbA : ¬ zz_A E b := fun h => absurd (hbE b h) (Nat.not_le.mpr hbl)
  have k_1 : (1 : Int32).toInt = 1 := by decide +kernel
  have k_2 : (2 : Int32).toInt = 2 := by decide +kernel
  refine lv_aload_n hx hb dL_law_873 rfl (lv_at hl 1 rfl) ?_
  refine lv_aload_n hx hb dL_law_874 rfl (lv_at hl 0 rfl) ?_
  refine lv_iload_n hx hb dL_law_875 rfl (lv_at hl 3 rfl) ?_
  refine lv_iconst (v := 1) hx hb dL_law_876 (by decide) ?_
  refine lv_iadd hx hb dL_law_877 ?_
  refine lv_topi (fun n1 e1 => ?_)
  have f1 : n1.toInt = (i).toInt + (1 : Int32).toInt := zz_addT e1 (by omega) (by omega)
  refine va_sld hx hb hX hbl hbA hS (vp_in_iff.mpr ⟨by omega, by omega⟩) dL_law_878 ?_
  refine lv_topi (fun v2 u2 => ?_)
  refine lv_aload_n hx hb dL_law_879 rfl (lv_at hl 0 rfl) ?_
  refine lv_iload_n hx hb dL_law_880 rfl (lv_at hl 3 rfl) ?_
  refine lv_iconst (v := 2) hx hb dL_law_881 (by decide) ?_
  refine lv_iadd hx hb dL_law_882 ?_
  refine lv_topi (fun n3 e3 => ?_)
  have f3 : n3.toInt = (i).toInt + (2 : Int32).toInt := zz_addT e3 (by omega) (by omega)
  refine va_sld hx hb hX hbl hbA hS (vp_in_iff.mpr ⟨by omega, by omega⟩) dL_law_883 ?_
  refine lv_topi (fun v4 u4 => ?_)
  refine zz_callVi (As := [.int v2, .int v4]) (rest := []) ⟨hx, hb, hml, hown, hts⟩ hK hP hS (c_X8_best l E σ x v2 v4 gL hR.1 (zy_KK σ x y) (zy_KX hR hQ)) (cwV 2 hts gL_law_X8_best rfl rfl rfl (by decide +kernel) ⟨Nat.le_of_ble_eq_true rfl, Nat.le_of_ble_eq_true rfl⟩) (gL.1) rfl rfl hl.1 rfl (Nat.le_of_ble_eq_true rfl) dL_law_884 ⟨Nat.le_refl _, Nat.le_refl _⟩ (fun r1 σ1 H locs q1 hP hS => ?_)
  try dsimp only at q1
  obtain ⟨w1, p1⟩ := q1
  have B : ∀ a k : Nat, y ≤ a → a ≤ y + 12 → σ1 a k = σ a k := fun a k h1 h2 => w1 a k ((dW_55 x y hxy) a k h1 h2)
  have hJ1 : zz_IM σ1 y := hR.2.1.far B
  refine lv_pop hx hb dL_law_887 rfl ?_
  refine lv_aload_n hx hb dL_law_888 rfl (lv_at hl 2 rfl) ?_
  refine lv_aload_n hx hb dL_law_889 rfl (lv_at hl 0 rfl) ?_
  refine lv_iload_n hx hb dL_law_890 rfl (lv_at hl 3 rfl) ?_
  refine lv_iconst (v := 1) hx hb dL_law_891 (by decide) ?_
  refine lv_iadd hx hb dL_law_892 ?_
  refine lv_topi (fun n6 e6 => ?_)
  have f6 : n6.toInt = (i).toInt + (1 : Int32).toInt := zz_addT e6 (by omega) (by omega)
  refine va_sld hx hb hX hbl hbA hS (vp_in_iff.mpr ⟨by omega, by omega⟩) dL_law_893 ?_
  refine lv_topi (fun v7 u7 => ?_)
  have z7 : v7 = v2 := by rw [u7, u2, e6, e1]
  have zt7 := congrArg Int32.toInt z7
  refine lv_aload_n hx hb dL_law_894 rfl (lv_at hl 0 rfl) ?_
  refine lv_iload_n hx hb dL_law_895 rfl (lv_at hl 3 rfl) ?_
  refine lv_iconst (v := 2) hx hb dL_law_896 (by decide) ?_
  refine lv_iadd hx hb dL_law_897 ?_
  refine lv_topi (fun n8 e8 => ?_)
  have f8 : n8.toInt = (i).toInt + (2 : Int32).toInt := zz_addT e8 (by omega) (by omega)
  refine va_sld hx hb hX hbl hbA hS (vp_in_iff.mpr ⟨by omega, by omega⟩) dL_law_898 ?_
  refine lv_topi (fun v9 u9 => ?_)
  have z9 : v9 = v4 := by rw [u9, u4, e8, e3]
  have zt9 := congrArg Int32.toInt z9
  refine zz_callVi (As := [.int v7, .int v9]) (rest := []) ⟨hx, hb, hml, hown, hts⟩ hK hP hS (c_X9_best l E σ1 y v7 v9 gM hJ1 (zy_KK σ x y) (zy_KY hR hQ B)) (cwV 2 hts gL_law_X9_best rfl rfl rfl (by decide +kernel) ⟨Nat.le_of_ble_eq_true rfl, Nat.le_of_ble_eq_true rfl⟩) (gM.1) rfl rfl hl.1 rfl (Nat.le_of_ble_eq_true rfl) dL_law_899 ⟨Nat.le_refl _, Nat.le_refl _⟩ (fun r2 σ2 H locs q2 hP hS => ?_)
  try dsimp only at q2
  obtain ⟨w2, p2⟩ := q2
  have A : ∀ a k : Nat, x ≤ a → a < x + 76 → σ2 a k = σ1 a k := fun a k h1 h2 => w2 a k ((dW_56 x y hxy) a k h1 h2)
  have i1 : zz_IX σ1 x := hR.1.soft (w1.mono (dW_57 x y hxy))
  have i2 : zz_IM σ2 y := hJ1.soft (w2.mono (dW_58 x y hxy))
  try simp only [z7, z9] at p2
  have hRL : zz_RL σ2 x y := hR.soft i1 i2 A B (fun k => w1 (x + 1) k ((dW_64 x y hxy) k)) (fun k hk => w2 (y + 1) k ((dW_59 x y hxy) k hk)) (fun k => w1 (x + 28) k ((dW_60 x y hxy) k)) (w1 x 2 (dW_61 x y hxy)) (fun k => w2 (y + 2) k ((dW_62 x y hxy) k)) (w2 y 2 (dW_63 x y hxy))
  obtain ⟨hqD, hqW, hqK, hqB, hqN, hqC, hqL, hqT, hqP, hqX, hqF, hqG, hqV⟩ := hQ
  obtain ⟨aD, aW, aKD, aKW, aB, aN, aC, aL, aT, aP, aX, aKP, aKX⟩ := zz_aX A
  obtain ⟨bD, bW, bKD, bKW, bB, bN, bC, bL, bT, bP, bX, bKP, bKX⟩ := zz_bM hR.2.1 B
  obtain ⟨aF, aKF, aV, aKV⟩ := zy_aX2 A
  obtain ⟨bF, bKF, bV, bKV⟩ := zy_bM2 B
  have rD : zz_DX σ2 (x + 1) = zz_DM σ2 (y + 1) := by rw [aD, zz_DXk (r := x + 1) w1 (dW_65 x y hxy), zz_DMk (a := y + 1) w2 (dW_66 x y hxy), bD, hqD]
  have rW : zz_PX 0 σ2 (x + 1) = zz_PM 0 σ2 (y + 1) := by rw [aW, zz_PXk (f := 0) (r := x + 1) w1 (dW_67 x y hxy), zz_PMk (f := 0) (a := y + 1) w2 (dW_68 x y hxy), bW, hqW]
  have rB : zz_HX 0 σ2 x = zz_HM σ2 (y + 4) := by rw [aB, zz_HX.eq (f := 0) (x := x) (fun j hj => w1 _ _ ((dW_69 x y hxy) j hj)), zz_HM.eq (a := y + 4) (fun j hj => w2 _ _ ((dW_70 x y hxy) j hj)), bB, hqB]
  have rN : zz_HX 1 σ2 x = zz_HM σ2 (y + 5) := by rw [aN, zz_HX.eq (f := 1) (x := x) (fun j hj => w1 _ _ ((dW_69 x y hxy) j hj)), zz_HM.eq (a := y + 5) (fun j hj => w2 _ _ ((dW_71 x y hxy) j hj)), bN, hqN]
  have rC : zz_CX σ2 x = zz_CM σ2 (y + 6) := by rw [aC, zz_CX.eq (x := x) (fun j hj k hk => w1 _ _ ((dW_72 x y hxy) j hj k hk)), zz_CM.eq (a := y + 6) (fun k hk => w2 _ _ ((dW_73 x y hxy) k hk)), bC, hqC]
  have rL : (σ2 (x + 56) 1).toInt = (σ2 y 18).toInt := by rw [aL, congrArg Int32.toInt (w1 (x + 56) 1 (dW_74 x y hxy)), congrArg Int32.toInt (w2 y 18 (dW_63 x y hxy)), bL, hqL]
  have rT : zz_TV σ2 (x + 56 + 1) = zz_TV σ2 (y + 12) := by rw [aT, zz_TV.eq (a := x + 56 + 1) (b := x + 56 + 1) (fun k _ => w1 _ k ((dW_75 x y hxy) k)), zz_TV.eq (a := y + 12) (b := y + 12) (fun k _ => w2 _ k ((dW_76 x y hxy) k)), bT, hqT]
  have rP : zz_Tp σ2 (x + 1 + 4) (σ2 (x + 1) 9).toInt = zz_Tm σ2 (y + 1) := by rw [aP, zz_Tp.all (a := x + 1 + 4) (b := x + 1 + 4) (congrArg Int32.toInt (w1 (x + 1) 9 (dW_77 x y hxy))) (fun k => w1 _ k ((dW_78 x y hxy) k)), zz_Tm.eq (a := y + 1) (b := y + 1) (w2 (y + 1) 5 (dW_79 x y hxy)) hJ1.1.2.2.2.2.1.2 (fun k hk => w2 (y + 1) (73 + k) ((dW_80 x y hxy) k hk)), bP, hqP]
  have rX : zz_tts (zz_XT σ2 (x + 1)) (zz_MT σ2 (y + 1)) := by rw [aX, zz_XT.all (r := x + 1) (fun a ha k => w1 a k ((dW_81 x y hxy) a ha k)), zz_MT.hi (a := y + 1) (b := y + 1) (fun k hk => w2 (y + 1) k ((dW_82 x y hxy) k hk)), bX]; exact hqX
  have rF : zz_PX 1 σ2 (x + 1) = zz_PM 1 σ2 (y + 1) := by rw [aF, zz_PXk (f := 1) (r := x + 1) w1 (dW_67 x y hxy), zz_PMk (f := 1) (a := y + 1) w2 (dW_68 x y hxy), bF, hqF]
  have rV : zy_wv σ2 (x + 1 + 5) 0 (σ2 (x + 1) 11).toInt = zy_wv σ2 (y + 1) 133 (σ2 (y + 1) 6).toInt := by rw [aV, zy_wv.eq (a := x + 1 + 5) (a1 := x + 1 + 5) (b := 0) (b1 := 0) (congrArg Int32.toInt (w1 (x + 1) 11 (dW_77 x y hxy))) (fun k hk => w1 (x + 1 + 5) (0 + k) ((dW_83 x y hxy) k hk)), zy_wv.eq (a := y + 1) (a1 := y + 1) (b := 133) (b1 := 133) (congrArg Int32.toInt (w2 (y + 1) 6 (dW_79 x y hxy))) (fun k hk => w2 (y + 1) (133 + k) ((dW_84 x y hxy) k hk)), bV, hqV]
  have rG : zy_FB (zz_PM 1 σ2 (y + 1)) := by rw [zz_PMk (f := 1) (a := y + 1) w2 (dW_68 x y hxy), bF]; exact hqG
  have rK : (σ2 x 2).toInt = 0 ∨ (zz_DX σ2 (x + 28) = zz_DM σ2 (y + 2) ∧ zz_PX 0 σ2 (x + 28) = zz_PM 0 σ2 (y + 2) ∧ zz_Tp σ2 (x + 28 + 4) (σ2 (x + 28) 9).toInt = zz_Tm σ2 (y + 2) ∧ zz_tts (zz_XT σ2 (x + 28)) (zz_MT σ2 (y + 2)) ∧ zz_PX 1 σ2 (x + 28) = zz_PM 1 σ2 (y + 2) ∧ zy_FB (zz_PM 1 σ2 (y + 2)) ∧ zy_wv σ2 (x + 28 + 5) 0 (σ2 (x + 28) 11).toInt = zy_wv σ2 (y + 2) 133 (σ2 (y + 2) 6).toInt) := hqK.elim (fun q => Or.inl ((congrArg Int32.toInt ((A x 2 (by omega) (by omega)).trans (w1 x 2 (dW_61 x y hxy)))).trans q)) (fun q => Or.inr ⟨by rw [aKD, zz_DXk (r := x + 28) w1 (dW_85 x y hxy), zz_DMk (a := y + 2) w2 (dW_86 x y hxy), bKD, q.1], by rw [aKW, zz_PXk (f := 0) (r := x + 28) w1 (dW_87 x y hxy), zz_PMk (f := 0) (a := y + 2) w2 (dW_88 x y hxy), bKW, q.2.1], by rw [aKP, zz_Tp.all (a := x + 28 + 4) (b := x + 28 + 4) (congrArg Int32.toInt (w1 (x + 28) 9 (dW_89 x y hxy))) (fun k => w1 _ k ((dW_90 x y hxy) k)), zz_Tm.eq (a := y + 2) (b := y + 2) (w2 (y + 2) 5 (dW_91 x y hxy)) hJ1.2.1.2.2.2.2.1.2 (fun k hk => w2 (y + 2) (73 + k) ((dW_92 x y hxy) k hk)), bKP, q.2.2.1], by rw [aKX, zz_XT.all (r := x + 28) (fun a ha k => w1 a k ((dW_93 x y hxy) a ha k)), zz_MT.hi (a := y + 2) (b := y + 2) (fun k hk => w2 (y + 2) k ((dW_94 x y hxy) k hk)), bKX]; exact q.2.2.2.1, by rw [aKF, zz_PXk (f := 1) (r := x + 28) w1 (dW_87 x y hxy), zz_PMk (f := 1) (a := y + 2) w2 (dW_88 x y hxy), bKF, q.2.2.2.2.1], by rw [zz_PMk (f := 1) (a := y + 2) w2 (dW_88 x y hxy), bKF]; exact q.2.2.2.2.2.1, by rw [aKV, zy_wv.eq (a := x + 28 + 5) (a1 := x + 28 + 5) (b := 0) (b1 := 0) (congrArg Int32.toInt (w1 (x + 28) 11 (dW_89 x y hxy))) (fun k hk => w1 (x + 28 + 5) (0 + k) ((dW_95 x y hxy) k hk)), zy_wv.eq (a := y + 2) (a1 := y + 2) (b := 133) (b1 := 133) (congrArg Int32.toInt (w2 (y + 2) 6 (dW_91 x y hxy))) (fun k hk => w2 (y + 2) (133 + k) ((dW_96 x y hxy) k hk)), bKV, q.2.2.2.2.2.2]⟩)
  have hQ2 : zz_RD σ2 x y := ⟨rD, rW, rK, rB, rN, rC, rL, rT, rP, rX, rF, rG, rV⟩
  refine lv_pop hx hb dL_law_902 rfl ?_
  refine lv_goto (tgt := 1384) hx hb dL_law_903 (by decide) ?_
  exact kk _ _ _ hRL hQ2 hP hS
theorem gL_law_X8_fewest : GoodIn wsL_law (wsV RL 108 RX8 yX8_fewest wzX8_fewest) := wz_coL bm_712 (wz_coL bm_713 (wz_coL bm_714 (wz_coL bm_2 (wz_inL bm_715))))
theorem gL_law_X9_fewest : GoodIn wsL_law (wsV RL 111 RX9 yX9_fewest wzX9_fewest) := wz_coL bm_732 (wz_coL bm_733 (wz_coL bm_734 (wz_coL bm_5 (wz_inL bm_735))))
set_option maxHeartbeats 4000000 in
set_option maxRecDepth 100000 in
theorem lc_fewest {p : Program} {l : Launch} {e : Env} {s : State} {m : MethodId} {below : List Frame} {meth : Method} {c : Code} {b L x y : Nat} {xs : Nat → Int32} {E : zz_E} {Q : State → Prop} (hA : zz_LA p s m c b L xs E x y) (i : Int32) (hi : 0 ≤ i.toInt ∧ i.toInt + 6 ≤ L) (σ : zz_S) (H : Heap) (locs : List Loc) (ls : Array Slot) (hR : zz_RL σ x y) (hQ : zz_RD σ x y) (hP : zz_P E σ H) (hS : va_S (zz_A E) s.heap H locs) (hl : lv_has ls 4 [(0, .ref b), (1, .ref x), (2, .ref y), (3, .int i)])
    (kk : ∀ (σ1 : zz_S) (H1 : Heap) (locs1 : List Loc), zz_RL σ1 x y → zz_RD σ1 x y → zz_P E σ1 H1 → va_S (zz_A E) s.heap H1 locs1 → W p l e room_1 s m #[Value.ref b] below meth c H1 locs1 600000 7302250 Q (F0 m 1384 ls [])) : W p l e room_1 s m #[Value.ref b] below meth c H locs 600000 7302250 Q (F0 m 906 ls []) := by
  obtain ⟨hx, hb, hml, hown, hts, hX, hbl, hbE, hL, gL, gM, hxy, hK⟩ := hA
  have hbA : ¬ zz_A E b := fun h => absurd (hbE b h) (Nat.not_le.mpr hbl)
  have k_1 : (1 : Int32).toInt = 1 := by decide +kernel
  have k_2 : (2 : Int32).toInt = 2 := by decide +kernel
  have k_3 : (3 : Int32).toInt = 3 := by decide +kernel
  refine lv_aload_n hx hb dL_law_906 rfl (lv_at hl 1 rfl) ?_
  refine lv_aload_n hx hb dL_law_907 rfl (lv_at hl 0 rfl) ?_
  refine lv_iload_n hx hb dL_law_908 rfl (lv_at hl 3 rfl) ?_
  refine lv_iconst (v := 1) hx hb dL_law_909 (by decide) ?_
  refine lv_iadd hx hb dL_law_910 ?_
  refine lv_topi (fun n1 e1 => ?_)
  have f1 : n1.toInt = (i).toInt + (1 : Int32).toInt := zz_addT e1 (by omega) (by omega)
  refine va_sld hx hb hX hbl hbA hS (vp_in_iff.mpr ⟨by omega, by omega⟩) dL_law_911 ?_
  refine lv_topi (fun v2 u2 => ?_)
  refine lv_aload_n hx hb dL_law_912 rfl (lv_at hl 0 rfl) ?_
  refine lv_iload_n hx hb dL_law_913 rfl (lv_at hl 3 rfl) ?_
  refine lv_iconst (v := 2) hx hb dL_law_914 (by decide) ?_
  refine lv_iadd hx hb dL_law_915 ?_
  refine lv_topi (fun n3 e3 => ?_)
  have f3 : n3.toInt = (i).toInt + (2 : Int32).toInt := zz_addT e3 (by omega) (by omega)
  refine va_sld hx hb hX hbl hbA hS (vp_in_iff.mpr ⟨by omega, by omega⟩) dL_law_916 ?_
  refine lv_topi (fun v4 u4 => ?_)
  refine lv_aload_n hx hb dL_law_917 rfl (lv_at hl 0 rfl) ?_
  refine lv_iload_n hx hb dL_law_918 rfl (lv_at hl 3 rfl) ?_
  refine lv_iconst (v := 3) hx hb dL_law_919 (by decide) ?_
  refine lv_iadd hx hb dL_law_920 ?_
  refine lv_topi (fun n5 e5 => ?_)
  have f5 : n5.toInt = (i).toInt + (3 : Int32).toInt := zz_addT e5 (by omega) (by omega)
  refine va_sld hx hb hX hbl hbA hS (vp_in_iff.mpr ⟨by omega, by omega⟩) dL_law_921 ?_
  refine lv_topi (fun v6 u6 => ?_)
  refine zz_callVi (As := [.int v2, .int v4, .int v6]) (rest := []) ⟨hx, hb, hml, hown, hts⟩ hK hP hS (c_X8_fewest l E σ x v2 v4 v6 gL hR.1 (zy_KK σ x y) (zy_KX hR hQ)) (cwV 3 hts gL_law_X8_fewest rfl rfl rfl (by decide +kernel) ⟨Nat.le_of_ble_eq_true rfl, Nat.le_of_ble_eq_true rfl⟩) (gL.1) rfl rfl hl.1 rfl (Nat.le_of_ble_eq_true rfl) dL_law_922 ⟨Nat.le_refl _, Nat.le_refl _⟩ (fun r1 σ1 H locs q1 hP hS => ?_)
  try dsimp only at q1
  obtain ⟨w1, p1⟩ := q1
  have B : ∀ a k : Nat, y ≤ a → a ≤ y + 12 → σ1 a k = σ a k := fun a k h1 h2 => w1 a k ((dW_55 x y hxy) a k h1 h2)
  have hJ1 : zz_IM σ1 y := hR.2.1.far B
  refine lv_pop hx hb dL_law_925 rfl ?_
  refine lv_aload_n hx hb dL_law_926 rfl (lv_at hl 2 rfl) ?_
  refine lv_aload_n hx hb dL_law_927 rfl (lv_at hl 0 rfl) ?_
  refine lv_iload_n hx hb dL_law_928 rfl (lv_at hl 3 rfl) ?_
  refine lv_iconst (v := 1) hx hb dL_law_929 (by decide) ?_
  refine lv_iadd hx hb dL_law_930 ?_
  refine lv_topi (fun n8 e8 => ?_)
  have f8 : n8.toInt = (i).toInt + (1 : Int32).toInt := zz_addT e8 (by omega) (by omega)
  refine va_sld hx hb hX hbl hbA hS (vp_in_iff.mpr ⟨by omega, by omega⟩) dL_law_931 ?_
  refine lv_topi (fun v9 u9 => ?_)
  have z9 : v9 = v2 := by rw [u9, u2, e8, e1]
  have zt9 := congrArg Int32.toInt z9
  refine lv_aload_n hx hb dL_law_932 rfl (lv_at hl 0 rfl) ?_
  refine lv_iload_n hx hb dL_law_933 rfl (lv_at hl 3 rfl) ?_
  refine lv_iconst (v := 2) hx hb dL_law_934 (by decide) ?_
  refine lv_iadd hx hb dL_law_935 ?_
  refine lv_topi (fun n10 e10 => ?_)
  have f10 : n10.toInt = (i).toInt + (2 : Int32).toInt := zz_addT e10 (by omega) (by omega)
  refine va_sld hx hb hX hbl hbA hS (vp_in_iff.mpr ⟨by omega, by omega⟩) dL_law_936 ?_
  refine lv_topi (fun v11 u11 => ?_)
  have z11 : v11 = v4 := by rw [u11, u4, e10, e3]
  have zt11 := congrArg Int32.toInt z11
  refine lv_aload_n hx hb dL_law_937 rfl (lv_at hl 0 rfl) ?_
  refine lv_iload_n hx hb dL_law_938 rfl (lv_at hl 3 rfl) ?_
  refine lv_iconst (v := 3) hx hb dL_law_939 (by decide) ?_
  refine lv_iadd hx hb dL_law_940 ?_
  refine lv_topi (fun n12 e12 => ?_)
  have f12 : n12.toInt = (i).toInt + (3 : Int32).toInt := zz_addT e12 (by omega) (by omega)
  refine va_sld hx hb hX hbl hbA hS (vp_in_iff.mpr ⟨by omega, by omega⟩) dL_law_941 ?_
  refine lv_topi (fun v13 u13 => ?_)
  have z13 : v13 = v6 := by rw [u13, u6, e12, e5]
  have zt13 := congrArg Int32.toInt z13
  refine zz_callVi (As := [.int v9, .int v11, .int v13]) (rest := []) ⟨hx, hb, hml, hown, hts⟩ hK hP hS (c_X9_fewest l E σ1 y v9 v11 v13 gM hJ1 (zy_KK σ x y) (zy_KY hR hQ B)) (cwV 3 hts gL_law_X9_fewest rfl rfl rfl (by decide +kernel) ⟨Nat.le_of_ble_eq_true rfl, Nat.le_of_ble_eq_true rfl⟩) (gM.1) rfl rfl hl.1 rfl (Nat.le_of_ble_eq_true rfl) dL_law_942 ⟨Nat.le_refl _, Nat.le_refl _⟩ (fun r2 σ2 H locs q2 hP hS => ?_)
  try dsimp only at q2
  obtain ⟨w2, p2⟩ := q2
  have A : ∀ a k : Nat, x ≤ a → a < x + 76 → σ2 a k = σ1 a k := fun a k h1 h2 => w2 a k ((dW_56 x y hxy) a k h1 h2)
  have i1 : zz_IX σ1 x := hR.1.soft (w1.mono (dW_57 x y hxy))
  have i2 : zz_IM σ2 y := hJ1.soft (w2.mono (dW_58 x y hxy))
  try simp only [z9, z11, z13] at p2
  have hRL : zz_RL σ2 x y := hR.soft i1 i2 A B (fun k => w1 (x + 1) k ((dW_64 x y hxy) k)) (fun k hk => w2 (y + 1) k ((dW_59 x y hxy) k hk)) (fun k => w1 (x + 28) k ((dW_60 x y hxy) k)) (w1 x 2 (dW_61 x y hxy)) (fun k => w2 (y + 2) k ((dW_62 x y hxy) k)) (w2 y 2 (dW_63 x y hxy))
  obtain ⟨hqD, hqW, hqK, hqB, hqN, hqC, hqL, hqT, hqP, hqX, hqF, hqG, hqV⟩ := hQ
  obtain ⟨aD, aW, aKD, aKW, aB, aN, aC, aL, aT, aP, aX, aKP, aKX⟩ := zz_aX A
  obtain ⟨bD, bW, bKD, bKW, bB, bN, bC, bL, bT, bP, bX, bKP, bKX⟩ := zz_bM hR.2.1 B
  obtain ⟨aF, aKF, aV, aKV⟩ := zy_aX2 A
  obtain ⟨bF, bKF, bV, bKV⟩ := zy_bM2 B
  have rD : zz_DX σ2 (x + 1) = zz_DM σ2 (y + 1) := by rw [aD, zz_DXk (r := x + 1) w1 (dW_65 x y hxy), zz_DMk (a := y + 1) w2 (dW_66 x y hxy), bD, hqD]
  have rW : zz_PX 0 σ2 (x + 1) = zz_PM 0 σ2 (y + 1) := by rw [aW, zz_PXk (f := 0) (r := x + 1) w1 (dW_67 x y hxy), zz_PMk (f := 0) (a := y + 1) w2 (dW_68 x y hxy), bW, hqW]
  have rB : zz_HX 0 σ2 x = zz_HM σ2 (y + 4) := by rw [aB, zz_HX.eq (f := 0) (x := x) (fun j hj => w1 _ _ ((dW_69 x y hxy) j hj)), zz_HM.eq (a := y + 4) (fun j hj => w2 _ _ ((dW_70 x y hxy) j hj)), bB, hqB]
  have rN : zz_HX 1 σ2 x = zz_HM σ2 (y + 5) := by rw [aN, zz_HX.eq (f := 1) (x := x) (fun j hj => w1 _ _ ((dW_69 x y hxy) j hj)), zz_HM.eq (a := y + 5) (fun j hj => w2 _ _ ((dW_71 x y hxy) j hj)), bN, hqN]
  have rC : zz_CX σ2 x = zz_CM σ2 (y + 6) := by rw [aC, zz_CX.eq (x := x) (fun j hj k hk => w1 _ _ ((dW_72 x y hxy) j hj k hk)), zz_CM.eq (a := y + 6) (fun k hk => w2 _ _ ((dW_73 x y hxy) k hk)), bC, hqC]
  have rL : (σ2 (x + 56) 1).toInt = (σ2 y 18).toInt := by rw [aL, congrArg Int32.toInt (w1 (x + 56) 1 (dW_74 x y hxy)), congrArg Int32.toInt (w2 y 18 (dW_63 x y hxy)), bL, hqL]
  have rT : zz_TV σ2 (x + 56 + 1) = zz_TV σ2 (y + 12) := by rw [aT, zz_TV.eq (a := x + 56 + 1) (b := x + 56 + 1) (fun k _ => w1 _ k ((dW_75 x y hxy) k)), zz_TV.eq (a := y + 12) (b := y + 12) (fun k _ => w2 _ k ((dW_76 x y hxy) k)), bT, hqT]
  have rP : zz_Tp σ2 (x + 1 + 4) (σ2 (x + 1) 9).toInt = zz_Tm σ2 (y + 1) := by rw [aP, zz_Tp.all (a := x + 1 + 4) (b := x + 1 + 4) (congrArg Int32.toInt (w1 (x + 1) 9 (dW_77 x y hxy))) (fun k => w1 _ k ((dW_78 x y hxy) k)), zz_Tm.eq (a := y + 1) (b := y + 1) (w2 (y + 1) 5 (dW_79 x y hxy)) hJ1.1.2.2.2.2.1.2 (fun k hk => w2 (y + 1) (73 + k) ((dW_80 x y hxy) k hk)), bP, hqP]
  have rX : zz_tts (zz_XT σ2 (x + 1)) (zz_MT σ2 (y + 1)) := by rw [aX, zz_XT.all (r := x + 1) (fun a ha k => w1 a k ((dW_81 x y hxy) a ha k)), zz_MT.hi (a := y + 1) (b := y + 1) (fun k hk => w2 (y + 1) k ((dW_82 x y hxy) k hk)), bX]; exact hqX
  have rF : zz_PX 1 σ2 (x + 1) = zz_PM 1 σ2 (y + 1) := by rw [aF, zz_PXk (f := 1) (r := x + 1) w1 (dW_67 x y hxy), zz_PMk (f := 1) (a := y + 1) w2 (dW_68 x y hxy), bF, hqF]
  have rV : zy_wv σ2 (x + 1 + 5) 0 (σ2 (x + 1) 11).toInt = zy_wv σ2 (y + 1) 133 (σ2 (y + 1) 6).toInt := by rw [aV, zy_wv.eq (a := x + 1 + 5) (a1 := x + 1 + 5) (b := 0) (b1 := 0) (congrArg Int32.toInt (w1 (x + 1) 11 (dW_77 x y hxy))) (fun k hk => w1 (x + 1 + 5) (0 + k) ((dW_83 x y hxy) k hk)), zy_wv.eq (a := y + 1) (a1 := y + 1) (b := 133) (b1 := 133) (congrArg Int32.toInt (w2 (y + 1) 6 (dW_79 x y hxy))) (fun k hk => w2 (y + 1) (133 + k) ((dW_84 x y hxy) k hk)), bV, hqV]
  have rG : zy_FB (zz_PM 1 σ2 (y + 1)) := by rw [zz_PMk (f := 1) (a := y + 1) w2 (dW_68 x y hxy), bF]; exact hqG
  have rK : (σ2 x 2).toInt = 0 ∨ (zz_DX σ2 (x + 28) = zz_DM σ2 (y + 2) ∧ zz_PX 0 σ2 (x + 28) = zz_PM 0 σ2 (y + 2) ∧ zz_Tp σ2 (x + 28 + 4) (σ2 (x + 28) 9).toInt = zz_Tm σ2 (y + 2) ∧ zz_tts (zz_XT σ2 (x + 28)) (zz_MT σ2 (y + 2)) ∧ zz_PX 1 σ2 (x + 28) = zz_PM 1 σ2 (y + 2) ∧ zy_FB (zz_PM 1 σ2 (y + 2)) ∧ zy_wv σ2 (x + 28 + 5) 0 (σ2 (x + 28) 11).toInt = zy_wv σ2 (y + 2) 133 (σ2 (y + 2) 6).toInt) := hqK.elim (fun q => Or.inl ((congrArg Int32.toInt ((A x 2 (by omega) (by omega)).trans (w1 x 2 (dW_61 x y hxy)))).trans q)) (fun q => Or.inr ⟨by rw [aKD, zz_DXk (r := x + 28) w1 (dW_85 x y hxy), zz_DMk (a := y + 2) w2 (dW_86 x y hxy), bKD, q.1], by rw [aKW, zz_PXk (f := 0) (r := x + 28) w1 (dW_87 x y hxy), zz_PMk (f := 0) (a := y + 2) w2 (dW_88 x y hxy), bKW, q.2.1], by rw [aKP, zz_Tp.all (a := x + 28 + 4) (b := x + 28 + 4) (congrArg Int32.toInt (w1 (x + 28) 9 (dW_89 x y hxy))) (fun k => w1 _ k ((dW_90 x y hxy) k)), zz_Tm.eq (a := y + 2) (b := y + 2) (w2 (y + 2) 5 (dW_91 x y hxy)) hJ1.2.1.2.2.2.2.1.2 (fun k hk => w2 (y + 2) (73 + k) ((dW_92 x y hxy) k hk)), bKP, q.2.2.1], by rw [aKX, zz_XT.all (r := x + 28) (fun a ha k => w1 a k ((dW_93 x y hxy) a ha k)), zz_MT.hi (a := y + 2) (b := y + 2) (fun k hk => w2 (y + 2) k ((dW_94 x y hxy) k hk)), bKX]; exact q.2.2.2.1, by rw [aKF, zz_PXk (f := 1) (r := x + 28) w1 (dW_87 x y hxy), zz_PMk (f := 1) (a := y + 2) w2 (dW_88 x y hxy), bKF, q.2.2.2.2.1], by rw [zz_PMk (f := 1) (a := y + 2) w2 (dW_88 x y hxy), bKF]; exact q.2.2.2.2.2.1, by rw [aKV, zy_wv.eq (a := x + 28 + 5) (a1 := x + 28 + 5) (b := 0) (b1 := 0) (congrArg Int32.toInt (w1 (x + 28) 11 (dW_89 x y hxy))) (fun k hk => w1 (x + 28 + 5) (0 + k) ((dW_95 x y hxy) k hk)), zy_wv.eq (a := y + 2) (a1 := y + 2) (b := 133) (b1 := 133) (congrArg Int32.toInt (w2 (y + 2) 6 (dW_91 x y hxy))) (fun k hk => w2 (y + 2) (133 + k) ((dW_96 x y hxy) k hk)), bKV, q.2.2.2.2.2.2]⟩)
  have hQ2 : zz_RD σ2 x y := ⟨rD, rW, rK, rB, rN, rC, rL, rT, rP, rX, rF, rG, rV⟩
  refine lv_pop hx hb dL_law_945 rfl ?_
  refine lv_goto (tgt := 1384) hx hb dL_law_946 (by decide) ?_
  exact kk _ _ _ hRL hQ2 hP hS
theorem gL_law_X8_odds : GoodIn wsL_law (wsV RL 112 RX8 yX8_odds wzX8_odds) := wz_coL bm_748 (wz_coL bm_749 (wz_coL bm_750 (wz_coL bm_2 (wz_inL bm_751))))
theorem gL_law_X9_odds : GoodIn wsL_law (wsV RL 115 RX9 yX9_odds wzX9_odds) := wz_coL bm_755 (wz_coL bm_756 (wz_coL bm_757 (wz_coL bm_5 (wz_inL bm_758))))
set_option maxHeartbeats 4000000 in
set_option maxRecDepth 100000 in
theorem lc_odds {p : Program} {l : Launch} {e : Env} {s : State} {m : MethodId} {below : List Frame} {meth : Method} {c : Code} {b L x y : Nat} {xs : Nat → Int32} {E : zz_E} {Q : State → Prop} (hA : zz_LA p s m c b L xs E x y) (i : Int32) (hi : 0 ≤ i.toInt ∧ i.toInt + 6 ≤ L) (σ : zz_S) (H : Heap) (locs : List Loc) (ls : Array Slot) (hR : zz_RL σ x y) (hQ : zz_RD σ x y) (hP : zz_P E σ H) (hS : va_S (zz_A E) s.heap H locs) (hl : lv_has ls 4 [(0, .ref b), (1, .ref x), (2, .ref y), (3, .int i)])
    (kk : ∀ (σ1 : zz_S) (H1 : Heap) (locs1 : List Loc), zz_RL σ1 x y → zz_RD σ1 x y → zz_P E σ1 H1 → va_S (zz_A E) s.heap H1 locs1 → W p l e room_1 s m #[Value.ref b] below meth c H1 locs1 600000 7302250 Q (F0 m 1384 ls [])) : W p l e room_1 s m #[Value.ref b] below meth c H locs 600000 7302250 Q (F0 m 949 ls []) := by
  obtain ⟨hx, hb, hml, hown, hts, hX, hbl, hbE, hL, gL, gM, hxy, hK⟩ := hA
  have hbA : ¬ zz_A E b := fun h => absurd (hbE b h) (Nat.not_le.mpr hbl)
  have k_1 : (1 : Int32).toInt = 1 := by decide +kernel
  have k_2 : (2 : Int32).toInt = 2 := by decide +kernel
  have k_3 : (3 : Int32).toInt = 3 := by decide +kernel
  refine lv_aload_n hx hb dL_law_949 rfl (lv_at hl 1 rfl) ?_
  refine lv_aload_n hx hb dL_law_950 rfl (lv_at hl 0 rfl) ?_
  refine lv_iload_n hx hb dL_law_951 rfl (lv_at hl 3 rfl) ?_
  refine lv_iconst (v := 1) hx hb dL_law_952 (by decide) ?_
  refine lv_iadd hx hb dL_law_953 ?_
  refine lv_topi (fun n1 e1 => ?_)
  have f1 : n1.toInt = (i).toInt + (1 : Int32).toInt := zz_addT e1 (by omega) (by omega)
  refine va_sld hx hb hX hbl hbA hS (vp_in_iff.mpr ⟨by omega, by omega⟩) dL_law_954 ?_
  refine lv_topi (fun v2 u2 => ?_)
  refine lv_aload_n hx hb dL_law_955 rfl (lv_at hl 0 rfl) ?_
  refine lv_iload_n hx hb dL_law_956 rfl (lv_at hl 3 rfl) ?_
  refine lv_iconst (v := 2) hx hb dL_law_957 (by decide) ?_
  refine lv_iadd hx hb dL_law_958 ?_
  refine lv_topi (fun n3 e3 => ?_)
  have f3 : n3.toInt = (i).toInt + (2 : Int32).toInt := zz_addT e3 (by omega) (by omega)
  refine va_sld hx hb hX hbl hbA hS (vp_in_iff.mpr ⟨by omega, by omega⟩) dL_law_959 ?_
  refine lv_topi (fun v4 u4 => ?_)
  refine lv_aload_n hx hb dL_law_960 rfl (lv_at hl 0 rfl) ?_
  refine lv_iload_n hx hb dL_law_961 rfl (lv_at hl 3 rfl) ?_
  refine lv_iconst (v := 3) hx hb dL_law_962 (by decide) ?_
  refine lv_iadd hx hb dL_law_963 ?_
  refine lv_topi (fun n5 e5 => ?_)
  have f5 : n5.toInt = (i).toInt + (3 : Int32).toInt := zz_addT e5 (by omega) (by omega)
  refine va_sld hx hb hX hbl hbA hS (vp_in_iff.mpr ⟨by omega, by omega⟩) dL_law_964 ?_
  refine lv_topi (fun v6 u6 => ?_)
  refine zz_callVi (As := [.int v2, .int v4, .int v6]) (rest := []) ⟨hx, hb, hml, hown, hts⟩ hK hP hS (c_X8_odds l E σ x v2 v4 v6 gL hR.1 (zy_KK σ x y) (zy_KX hR hQ)) (cwV 3 hts gL_law_X8_odds rfl rfl rfl (by decide +kernel) ⟨Nat.le_of_ble_eq_true rfl, Nat.le_of_ble_eq_true rfl⟩) (gL.1) rfl rfl hl.1 rfl (Nat.le_of_ble_eq_true rfl) dL_law_965 ⟨Nat.le_refl _, Nat.le_refl _⟩ (fun r1 σ1 H locs q1 hP hS => ?_)
  try dsimp only at q1
  obtain ⟨w1, p1⟩ := q1
  have B : ∀ a k : Nat, y ≤ a → a ≤ y + 12 → σ1 a k = σ a k := fun a k h1 h2 => w1 a k ((dW_55 x y hxy) a k h1 h2)
  have hJ1 : zz_IM σ1 y := hR.2.1.far B
  refine lv_pop hx hb dL_law_968 rfl ?_
  refine lv_aload_n hx hb dL_law_969 rfl (lv_at hl 2 rfl) ?_
  refine lv_aload_n hx hb dL_law_970 rfl (lv_at hl 0 rfl) ?_
  refine lv_iload_n hx hb dL_law_971 rfl (lv_at hl 3 rfl) ?_
  refine lv_iconst (v := 1) hx hb dL_law_972 (by decide) ?_
  refine lv_iadd hx hb dL_law_973 ?_
  refine lv_topi (fun n8 e8 => ?_)
  have f8 : n8.toInt = (i).toInt + (1 : Int32).toInt := zz_addT e8 (by omega) (by omega)
  refine va_sld hx hb hX hbl hbA hS (vp_in_iff.mpr ⟨by omega, by omega⟩) dL_law_974 ?_
  refine lv_topi (fun v9 u9 => ?_)
  have z9 : v9 = v2 := by rw [u9, u2, e8, e1]
  have zt9 := congrArg Int32.toInt z9
  refine lv_aload_n hx hb dL_law_975 rfl (lv_at hl 0 rfl) ?_
  refine lv_iload_n hx hb dL_law_976 rfl (lv_at hl 3 rfl) ?_
  refine lv_iconst (v := 2) hx hb dL_law_977 (by decide) ?_
  refine lv_iadd hx hb dL_law_978 ?_
  refine lv_topi (fun n10 e10 => ?_)
  have f10 : n10.toInt = (i).toInt + (2 : Int32).toInt := zz_addT e10 (by omega) (by omega)
  refine va_sld hx hb hX hbl hbA hS (vp_in_iff.mpr ⟨by omega, by omega⟩) dL_law_979 ?_
  refine lv_topi (fun v11 u11 => ?_)
  have z11 : v11 = v4 := by rw [u11, u4, e10, e3]
  have zt11 := congrArg Int32.toInt z11
  refine lv_aload_n hx hb dL_law_980 rfl (lv_at hl 0 rfl) ?_
  refine lv_iload_n hx hb dL_law_981 rfl (lv_at hl 3 rfl) ?_
  refine lv_iconst (v := 3) hx hb dL_law_982 (by decide) ?_
  refine lv_iadd hx hb dL_law_983 ?_
  refine lv_topi (fun n12 e12 => ?_)
  have f12 : n12.toInt = (i).toInt + (3 : Int32).toInt := zz_addT e12 (by omega) (by omega)
  refine va_sld hx hb hX hbl hbA hS (vp_in_iff.mpr ⟨by omega, by omega⟩) dL_law_984 ?_
  refine lv_topi (fun v13 u13 => ?_)
  have z13 : v13 = v6 := by rw [u13, u6, e12, e5]
  have zt13 := congrArg Int32.toInt z13
  refine zz_callVi (As := [.int v9, .int v11, .int v13]) (rest := []) ⟨hx, hb, hml, hown, hts⟩ hK hP hS (c_X9_odds l E σ1 y v9 v11 v13 gM hJ1 (zy_KK σ x y) (zy_KY hR hQ B)) (cwV 3 hts gL_law_X9_odds rfl rfl rfl (by decide +kernel) ⟨Nat.le_of_ble_eq_true rfl, Nat.le_of_ble_eq_true rfl⟩) (gM.1) rfl rfl hl.1 rfl (Nat.le_of_ble_eq_true rfl) dL_law_985 ⟨Nat.le_refl _, Nat.le_refl _⟩ (fun r2 σ2 H locs q2 hP hS => ?_)
  try dsimp only at q2
  obtain ⟨w2, p2⟩ := q2
  have A : ∀ a k : Nat, x ≤ a → a < x + 76 → σ2 a k = σ1 a k := fun a k h1 h2 => w2 a k ((dW_56 x y hxy) a k h1 h2)
  have i1 : zz_IX σ1 x := hR.1.soft (w1.mono (dW_57 x y hxy))
  have i2 : zz_IM σ2 y := hJ1.soft (w2.mono (dW_58 x y hxy))
  try simp only [z9, z11, z13] at p2
  have hRL : zz_RL σ2 x y := hR.soft i1 i2 A B (fun k => w1 (x + 1) k ((dW_64 x y hxy) k)) (fun k hk => w2 (y + 1) k ((dW_59 x y hxy) k hk)) (fun k => w1 (x + 28) k ((dW_60 x y hxy) k)) (w1 x 2 (dW_61 x y hxy)) (fun k => w2 (y + 2) k ((dW_62 x y hxy) k)) (w2 y 2 (dW_63 x y hxy))
  obtain ⟨hqD, hqW, hqK, hqB, hqN, hqC, hqL, hqT, hqP, hqX, hqF, hqG, hqV⟩ := hQ
  obtain ⟨aD, aW, aKD, aKW, aB, aN, aC, aL, aT, aP, aX, aKP, aKX⟩ := zz_aX A
  obtain ⟨bD, bW, bKD, bKW, bB, bN, bC, bL, bT, bP, bX, bKP, bKX⟩ := zz_bM hR.2.1 B
  obtain ⟨aF, aKF, aV, aKV⟩ := zy_aX2 A
  obtain ⟨bF, bKF, bV, bKV⟩ := zy_bM2 B
  have rD : zz_DX σ2 (x + 1) = zz_DM σ2 (y + 1) := by rw [aD, zz_DXk (r := x + 1) w1 (dW_65 x y hxy), zz_DMk (a := y + 1) w2 (dW_66 x y hxy), bD, hqD]
  have rW : zz_PX 0 σ2 (x + 1) = zz_PM 0 σ2 (y + 1) := by rw [aW, zz_PXk (f := 0) (r := x + 1) w1 (dW_67 x y hxy), zz_PMk (f := 0) (a := y + 1) w2 (dW_68 x y hxy), bW, hqW]
  have rB : zz_HX 0 σ2 x = zz_HM σ2 (y + 4) := by rw [aB, zz_HX.eq (f := 0) (x := x) (fun j hj => w1 _ _ ((dW_69 x y hxy) j hj)), zz_HM.eq (a := y + 4) (fun j hj => w2 _ _ ((dW_70 x y hxy) j hj)), bB, hqB]
  have rN : zz_HX 1 σ2 x = zz_HM σ2 (y + 5) := by rw [aN, zz_HX.eq (f := 1) (x := x) (fun j hj => w1 _ _ ((dW_69 x y hxy) j hj)), zz_HM.eq (a := y + 5) (fun j hj => w2 _ _ ((dW_71 x y hxy) j hj)), bN, hqN]
  have rC : zz_CX σ2 x = zz_CM σ2 (y + 6) := by rw [aC, zz_CX.eq (x := x) (fun j hj k hk => w1 _ _ ((dW_72 x y hxy) j hj k hk)), zz_CM.eq (a := y + 6) (fun k hk => w2 _ _ ((dW_73 x y hxy) k hk)), bC, hqC]
  have rL : (σ2 (x + 56) 1).toInt = (σ2 y 18).toInt := by rw [aL, congrArg Int32.toInt (w1 (x + 56) 1 (dW_74 x y hxy)), congrArg Int32.toInt (w2 y 18 (dW_63 x y hxy)), bL, hqL]
  have rT : zz_TV σ2 (x + 56 + 1) = zz_TV σ2 (y + 12) := by rw [aT, zz_TV.eq (a := x + 56 + 1) (b := x + 56 + 1) (fun k _ => w1 _ k ((dW_75 x y hxy) k)), zz_TV.eq (a := y + 12) (b := y + 12) (fun k _ => w2 _ k ((dW_76 x y hxy) k)), bT, hqT]
  have rP : zz_Tp σ2 (x + 1 + 4) (σ2 (x + 1) 9).toInt = zz_Tm σ2 (y + 1) := by rw [aP, zz_Tp.all (a := x + 1 + 4) (b := x + 1 + 4) (congrArg Int32.toInt (w1 (x + 1) 9 (dW_77 x y hxy))) (fun k => w1 _ k ((dW_78 x y hxy) k)), zz_Tm.eq (a := y + 1) (b := y + 1) (w2 (y + 1) 5 (dW_79 x y hxy)) hJ1.1.2.2.2.2.1.2 (fun k hk => w2 (y + 1) (73 + k) ((dW_80 x y hxy) k hk)), bP, hqP]
  have rX : zz_tts (zz_XT σ2 (x + 1)) (zz_MT σ2 (y + 1)) := by rw [aX, zz_XT.all (r := x + 1) (fun a ha k => w1 a k ((dW_81 x y hxy) a ha k)), zz_MT.hi (a := y + 1) (b := y + 1) (fun k hk => w2 (y + 1) k ((dW_82 x y hxy) k hk)), bX]; exact hqX
  have rF : zz_PX 1 σ2 (x + 1) = zz_PM 1 σ2 (y + 1) := by rw [aF, zz_PXk (f := 1) (r := x + 1) w1 (dW_67 x y hxy), zz_PMk (f := 1) (a := y + 1) w2 (dW_68 x y hxy), bF, hqF]
  have rV : zy_wv σ2 (x + 1 + 5) 0 (σ2 (x + 1) 11).toInt = zy_wv σ2 (y + 1) 133 (σ2 (y + 1) 6).toInt := by rw [aV, zy_wv.eq (a := x + 1 + 5) (a1 := x + 1 + 5) (b := 0) (b1 := 0) (congrArg Int32.toInt (w1 (x + 1) 11 (dW_77 x y hxy))) (fun k hk => w1 (x + 1 + 5) (0 + k) ((dW_83 x y hxy) k hk)), zy_wv.eq (a := y + 1) (a1 := y + 1) (b := 133) (b1 := 133) (congrArg Int32.toInt (w2 (y + 1) 6 (dW_79 x y hxy))) (fun k hk => w2 (y + 1) (133 + k) ((dW_84 x y hxy) k hk)), bV, hqV]
  have rG : zy_FB (zz_PM 1 σ2 (y + 1)) := by rw [zz_PMk (f := 1) (a := y + 1) w2 (dW_68 x y hxy), bF]; exact hqG
  have rK : (σ2 x 2).toInt = 0 ∨ (zz_DX σ2 (x + 28) = zz_DM σ2 (y + 2) ∧ zz_PX 0 σ2 (x + 28) = zz_PM 0 σ2 (y + 2) ∧ zz_Tp σ2 (x + 28 + 4) (σ2 (x + 28) 9).toInt = zz_Tm σ2 (y + 2) ∧ zz_tts (zz_XT σ2 (x + 28)) (zz_MT σ2 (y + 2)) ∧ zz_PX 1 σ2 (x + 28) = zz_PM 1 σ2 (y + 2) ∧ zy_FB (zz_PM 1 σ2 (y + 2)) ∧ zy_wv σ2 (x + 28 + 5) 0 (σ2 (x + 28) 11).toInt = zy_wv σ2 (y + 2) 133 (σ2 (y + 2) 6).toInt) := hqK.elim (fun q => Or.inl ((congrArg Int32.toInt ((A x 2 (by omega) (by omega)).trans (w1 x 2 (dW_61 x y hxy)))).trans q)) (fun q => Or.inr ⟨by rw [aKD, zz_DXk (r := x + 28) w1 (dW_85 x y hxy), zz_DMk (a := y + 2) w2 (dW_86 x y hxy), bKD, q.1], by rw [aKW, zz_PXk (f := 0) (r := x + 28) w1 (dW_87 x y hxy), zz_PMk (f := 0) (a := y + 2) w2 (dW_88 x y hxy), bKW, q.2.1], by rw [aKP, zz_Tp.all (a := x + 28 + 4) (b := x + 28 + 4) (congrArg Int32.toInt (w1 (x + 28) 9 (dW_89 x y hxy))) (fun k => w1 _ k ((dW_90 x y hxy) k)), zz_Tm.eq (a := y + 2) (b := y + 2) (w2 (y + 2) 5 (dW_91 x y hxy)) hJ1.2.1.2.2.2.2.1.2 (fun k hk => w2 (y + 2) (73 + k) ((dW_92 x y hxy) k hk)), bKP, q.2.2.1], by rw [aKX, zz_XT.all (r := x + 28) (fun a ha k => w1 a k ((dW_93 x y hxy) a ha k)), zz_MT.hi (a := y + 2) (b := y + 2) (fun k hk => w2 (y + 2) k ((dW_94 x y hxy) k hk)), bKX]; exact q.2.2.2.1, by rw [aKF, zz_PXk (f := 1) (r := x + 28) w1 (dW_87 x y hxy), zz_PMk (f := 1) (a := y + 2) w2 (dW_88 x y hxy), bKF, q.2.2.2.2.1], by rw [zz_PMk (f := 1) (a := y + 2) w2 (dW_88 x y hxy), bKF]; exact q.2.2.2.2.2.1, by rw [aKV, zy_wv.eq (a := x + 28 + 5) (a1 := x + 28 + 5) (b := 0) (b1 := 0) (congrArg Int32.toInt (w1 (x + 28) 11 (dW_89 x y hxy))) (fun k hk => w1 (x + 28 + 5) (0 + k) ((dW_95 x y hxy) k hk)), zy_wv.eq (a := y + 2) (a1 := y + 2) (b := 133) (b1 := 133) (congrArg Int32.toInt (w2 (y + 2) 6 (dW_91 x y hxy))) (fun k hk => w2 (y + 2) (133 + k) ((dW_96 x y hxy) k hk)), bKV, q.2.2.2.2.2.2]⟩)
  have hQ2 : zz_RD σ2 x y := ⟨rD, rW, rK, rB, rN, rC, rL, rT, rP, rX, rF, rG, rV⟩
  refine lv_pop hx hb dL_law_988 rfl ?_
  refine lv_goto (tgt := 1384) hx hb dL_law_989 (by decide) ?_
  exact kk _ _ _ hRL hQ2 hP hS
theorem gL_law_X8_fits : GoodIn wsL_law (wsV RL 116 RX8 yX8_fits wzX8_fits) := wz_coL bm_759 (wz_coL bm_760 (wz_coL bm_761 (wz_coL bm_2 (wz_inL bm_762))))
theorem gL_law_X9_fits : GoodIn wsL_law (wsV RL 119 RX9 yX9_fits wzX9_fits) := wz_coL bm_773 (wz_coL bm_774 (wz_coL bm_775 (wz_coL bm_5 (wz_inL bm_776))))
set_option maxHeartbeats 4000000 in
set_option maxRecDepth 100000 in
theorem lc_fits {p : Program} {l : Launch} {e : Env} {s : State} {m : MethodId} {below : List Frame} {meth : Method} {c : Code} {b L x y : Nat} {xs : Nat → Int32} {E : zz_E} {Q : State → Prop} (hA : zz_LA p s m c b L xs E x y) (i : Int32) (hi : 0 ≤ i.toInt ∧ i.toInt + 6 ≤ L) (σ : zz_S) (H : Heap) (locs : List Loc) (ls : Array Slot) (hR : zz_RL σ x y) (hQ : zz_RD σ x y) (hP : zz_P E σ H) (hS : va_S (zz_A E) s.heap H locs) (hl : lv_has ls 4 [(0, .ref b), (1, .ref x), (2, .ref y), (3, .int i)])
    (kk : ∀ (σ1 : zz_S) (H1 : Heap) (locs1 : List Loc), zz_RL σ1 x y → zz_RD σ1 x y → zz_P E σ1 H1 → va_S (zz_A E) s.heap H1 locs1 → W p l e room_1 s m #[Value.ref b] below meth c H1 locs1 600000 7302250 Q (F0 m 1384 ls [])) : W p l e room_1 s m #[Value.ref b] below meth c H locs 600000 7302250 Q (F0 m 992 ls []) := by
  obtain ⟨hx, hb, hml, hown, hts, hX, hbl, hbE, hL, gL, gM, hxy, hK⟩ := hA
  have hbA : ¬ zz_A E b := fun h => absurd (hbE b h) (Nat.not_le.mpr hbl)
  have k_1 : (1 : Int32).toInt = 1 := by decide +kernel
  refine lv_aload_n hx hb dL_law_992 rfl (lv_at hl 1 rfl) ?_
  refine lv_aload_n hx hb dL_law_993 rfl (lv_at hl 0 rfl) ?_
  refine lv_iload_n hx hb dL_law_994 rfl (lv_at hl 3 rfl) ?_
  refine lv_iconst (v := 1) hx hb dL_law_995 (by decide) ?_
  refine lv_iadd hx hb dL_law_996 ?_
  refine lv_topi (fun n1 e1 => ?_)
  have f1 : n1.toInt = (i).toInt + (1 : Int32).toInt := zz_addT e1 (by omega) (by omega)
  refine va_sld hx hb hX hbl hbA hS (vp_in_iff.mpr ⟨by omega, by omega⟩) dL_law_997 ?_
  refine lv_topi (fun v2 u2 => ?_)
  refine zz_callVi (As := [.int v2]) (rest := []) ⟨hx, hb, hml, hown, hts⟩ hK hP hS (c_X8_fits l E σ x v2 gL hR.1 (zy_KK σ x y) (zy_KX hR hQ)) (cwV 1 hts gL_law_X8_fits rfl rfl rfl (by decide +kernel) ⟨Nat.le_of_ble_eq_true rfl, Nat.le_of_ble_eq_true rfl⟩) (gL.1) rfl rfl hl.1 rfl (Nat.le_of_ble_eq_true rfl) dL_law_998 ⟨Nat.le_refl _, Nat.le_refl _⟩ (fun r1 σ1 H locs q1 hP hS => ?_)
  try dsimp only at q1
  obtain ⟨w1, p1⟩ := q1
  have B : ∀ a k : Nat, y ≤ a → a ≤ y + 12 → σ1 a k = σ a k := fun a k h1 h2 => w1 a k ((dW_55 x y hxy) a k h1 h2)
  have hJ1 : zz_IM σ1 y := hR.2.1.far B
  refine lv_pop hx hb dL_law_1001 rfl ?_
  refine lv_aload_n hx hb dL_law_1002 rfl (lv_at hl 2 rfl) ?_
  refine lv_aload_n hx hb dL_law_1003 rfl (lv_at hl 0 rfl) ?_
  refine lv_iload_n hx hb dL_law_1004 rfl (lv_at hl 3 rfl) ?_
  refine lv_iconst (v := 1) hx hb dL_law_1005 (by decide) ?_
  refine lv_iadd hx hb dL_law_1006 ?_
  refine lv_topi (fun n4 e4 => ?_)
  have f4 : n4.toInt = (i).toInt + (1 : Int32).toInt := zz_addT e4 (by omega) (by omega)
  refine va_sld hx hb hX hbl hbA hS (vp_in_iff.mpr ⟨by omega, by omega⟩) dL_law_1007 ?_
  refine lv_topi (fun v5 u5 => ?_)
  have z5 : v5 = v2 := by rw [u5, u2, e4, e1]
  have zt5 := congrArg Int32.toInt z5
  refine zz_callVi (As := [.int v5]) (rest := []) ⟨hx, hb, hml, hown, hts⟩ hK hP hS (c_X9_fits l E σ1 y v5 gM hJ1 (zy_KK σ x y) (zy_KY hR hQ B)) (cwV 1 hts gL_law_X9_fits rfl rfl rfl (by decide +kernel) ⟨Nat.le_of_ble_eq_true rfl, Nat.le_of_ble_eq_true rfl⟩) (gM.1) rfl rfl hl.1 rfl (Nat.le_of_ble_eq_true rfl) dL_law_1008 ⟨Nat.le_refl _, Nat.le_refl _⟩ (fun r2 σ2 H locs q2 hP hS => ?_)
  try dsimp only at q2
  obtain ⟨w2, p2⟩ := q2
  have A : ∀ a k : Nat, x ≤ a → a < x + 76 → σ2 a k = σ1 a k := fun a k h1 h2 => w2 a k ((dW_56 x y hxy) a k h1 h2)
  have i1 : zz_IX σ1 x := hR.1.soft (w1.mono (dW_57 x y hxy))
  have i2 : zz_IM σ2 y := hJ1.soft (w2.mono (dW_58 x y hxy))
  try simp only [z5] at p2
  have hRL : zz_RL σ2 x y := hR.soft i1 i2 A B (fun k => w1 (x + 1) k ((dW_64 x y hxy) k)) (fun k hk => w2 (y + 1) k ((dW_59 x y hxy) k hk)) (fun k => w1 (x + 28) k ((dW_60 x y hxy) k)) (w1 x 2 (dW_61 x y hxy)) (fun k => w2 (y + 2) k ((dW_62 x y hxy) k)) (w2 y 2 (dW_63 x y hxy))
  obtain ⟨hqD, hqW, hqK, hqB, hqN, hqC, hqL, hqT, hqP, hqX, hqF, hqG, hqV⟩ := hQ
  obtain ⟨aD, aW, aKD, aKW, aB, aN, aC, aL, aT, aP, aX, aKP, aKX⟩ := zz_aX A
  obtain ⟨bD, bW, bKD, bKW, bB, bN, bC, bL, bT, bP, bX, bKP, bKX⟩ := zz_bM hR.2.1 B
  obtain ⟨aF, aKF, aV, aKV⟩ := zy_aX2 A
  obtain ⟨bF, bKF, bV, bKV⟩ := zy_bM2 B
  have rD : zz_DX σ2 (x + 1) = zz_DM σ2 (y + 1) := by rw [aD, zz_DXk (r := x + 1) w1 (dW_65 x y hxy), zz_DMk (a := y + 1) w2 (dW_66 x y hxy), bD, hqD]
  have rW : zz_PX 0 σ2 (x + 1) = zz_PM 0 σ2 (y + 1) := by rw [aW, zz_PXk (f := 0) (r := x + 1) w1 (dW_67 x y hxy), zz_PMk (f := 0) (a := y + 1) w2 (dW_68 x y hxy), bW, hqW]
  have rB : zz_HX 0 σ2 x = zz_HM σ2 (y + 4) := by rw [aB, zz_HX.eq (f := 0) (x := x) (fun j hj => w1 _ _ ((dW_69 x y hxy) j hj)), zz_HM.eq (a := y + 4) (fun j hj => w2 _ _ ((dW_70 x y hxy) j hj)), bB, hqB]
  have rN : zz_HX 1 σ2 x = zz_HM σ2 (y + 5) := by rw [aN, zz_HX.eq (f := 1) (x := x) (fun j hj => w1 _ _ ((dW_69 x y hxy) j hj)), zz_HM.eq (a := y + 5) (fun j hj => w2 _ _ ((dW_71 x y hxy) j hj)), bN, hqN]
  have rC : zz_CX σ2 x = zz_CM σ2 (y + 6) := by rw [aC, zz_CX.eq (x := x) (fun j hj k hk => w1 _ _ ((dW_72 x y hxy) j hj k hk)), zz_CM.eq (a := y + 6) (fun k hk => w2 _ _ ((dW_73 x y hxy) k hk)), bC, hqC]
  have rL : (σ2 (x + 56) 1).toInt = (σ2 y 18).toInt := by rw [aL, congrArg Int32.toInt (w1 (x + 56) 1 (dW_74 x y hxy)), congrArg Int32.toInt (w2 y 18 (dW_63 x y hxy)), bL, hqL]
  have rT : zz_TV σ2 (x + 56 + 1) = zz_TV σ2 (y + 12) := by rw [aT, zz_TV.eq (a := x + 56 + 1) (b := x + 56 + 1) (fun k _ => w1 _ k ((dW_75 x y hxy) k)), zz_TV.eq (a := y + 12) (b := y + 12) (fun k _ => w2 _ k ((dW_76 x y hxy) k)), bT, hqT]
  have rP : zz_Tp σ2 (x + 1 + 4) (σ2 (x + 1) 9).toInt = zz_Tm σ2 (y + 1) := by rw [aP, zz_Tp.all (a := x + 1 + 4) (b := x + 1 + 4) (congrArg Int32.toInt (w1 (x + 1) 9 (dW_77 x y hxy))) (fun k => w1 _ k ((dW_78 x y hxy) k)), zz_Tm.eq (a := y + 1) (b := y + 1) (w2 (y + 1) 5 (dW_79 x y hxy)) hJ1.1.2.2.2.2.1.2 (fun k hk => w2 (y + 1) (73 + k) ((dW_80 x y hxy) k hk)), bP, hqP]
  have rX : zz_tts (zz_XT σ2 (x + 1)) (zz_MT σ2 (y + 1)) := by rw [aX, zz_XT.all (r := x + 1) (fun a ha k => w1 a k ((dW_81 x y hxy) a ha k)), zz_MT.hi (a := y + 1) (b := y + 1) (fun k hk => w2 (y + 1) k ((dW_82 x y hxy) k hk)), bX]; exact hqX
  have rF : zz_PX 1 σ2 (x + 1) = zz_PM 1 σ2 (y + 1) := by rw [aF, zz_PXk (f := 1) (r := x + 1) w1 (dW_67 x y hxy), zz_PMk (f := 1) (a := y + 1) w2 (dW_68 x y hxy), bF, hqF]
  have rV : zy_wv σ2 (x + 1 + 5) 0 (σ2 (x + 1) 11).toInt = zy_wv σ2 (y + 1) 133 (σ2 (y + 1) 6).toInt := by rw [aV, zy_wv.eq (a := x + 1 + 5) (a1 := x + 1 + 5) (b := 0) (b1 := 0) (congrArg Int32.toInt (w1 (x + 1) 11 (dW_77 x y hxy))) (fun k hk => w1 (x + 1 + 5) (0 + k) ((dW_83 x y hxy) k hk)), zy_wv.eq (a := y + 1) (a1 := y + 1) (b := 133) (b1 := 133) (congrArg Int32.toInt (w2 (y + 1) 6 (dW_79 x y hxy))) (fun k hk => w2 (y + 1) (133 + k) ((dW_84 x y hxy) k hk)), bV, hqV]
  have rG : zy_FB (zz_PM 1 σ2 (y + 1)) := by rw [zz_PMk (f := 1) (a := y + 1) w2 (dW_68 x y hxy), bF]; exact hqG
  have rK : (σ2 x 2).toInt = 0 ∨ (zz_DX σ2 (x + 28) = zz_DM σ2 (y + 2) ∧ zz_PX 0 σ2 (x + 28) = zz_PM 0 σ2 (y + 2) ∧ zz_Tp σ2 (x + 28 + 4) (σ2 (x + 28) 9).toInt = zz_Tm σ2 (y + 2) ∧ zz_tts (zz_XT σ2 (x + 28)) (zz_MT σ2 (y + 2)) ∧ zz_PX 1 σ2 (x + 28) = zz_PM 1 σ2 (y + 2) ∧ zy_FB (zz_PM 1 σ2 (y + 2)) ∧ zy_wv σ2 (x + 28 + 5) 0 (σ2 (x + 28) 11).toInt = zy_wv σ2 (y + 2) 133 (σ2 (y + 2) 6).toInt) := hqK.elim (fun q => Or.inl ((congrArg Int32.toInt ((A x 2 (by omega) (by omega)).trans (w1 x 2 (dW_61 x y hxy)))).trans q)) (fun q => Or.inr ⟨by rw [aKD, zz_DXk (r := x + 28) w1 (dW_85 x y hxy), zz_DMk (a := y + 2) w2 (dW_86 x y hxy), bKD, q.1], by rw [aKW, zz_PXk (f := 0) (r := x + 28) w1 (dW_87 x y hxy), zz_PMk (f := 0) (a := y + 2) w2 (dW_88 x y hxy), bKW, q.2.1], by rw [aKP, zz_Tp.all (a := x + 28 + 4) (b := x + 28 + 4) (congrArg Int32.toInt (w1 (x + 28) 9 (dW_89 x y hxy))) (fun k => w1 _ k ((dW_90 x y hxy) k)), zz_Tm.eq (a := y + 2) (b := y + 2) (w2 (y + 2) 5 (dW_91 x y hxy)) hJ1.2.1.2.2.2.2.1.2 (fun k hk => w2 (y + 2) (73 + k) ((dW_92 x y hxy) k hk)), bKP, q.2.2.1], by rw [aKX, zz_XT.all (r := x + 28) (fun a ha k => w1 a k ((dW_93 x y hxy) a ha k)), zz_MT.hi (a := y + 2) (b := y + 2) (fun k hk => w2 (y + 2) k ((dW_94 x y hxy) k hk)), bKX]; exact q.2.2.2.1, by rw [aKF, zz_PXk (f := 1) (r := x + 28) w1 (dW_87 x y hxy), zz_PMk (f := 1) (a := y + 2) w2 (dW_88 x y hxy), bKF, q.2.2.2.2.1], by rw [zz_PMk (f := 1) (a := y + 2) w2 (dW_88 x y hxy), bKF]; exact q.2.2.2.2.2.1, by rw [aKV, zy_wv.eq (a := x + 28 + 5) (a1 := x + 28 + 5) (b := 0) (b1 := 0) (congrArg Int32.toInt (w1 (x + 28) 11 (dW_89 x y hxy))) (fun k hk => w1 (x + 28 + 5) (0 + k) ((dW_95 x y hxy) k hk)), zy_wv.eq (a := y + 2) (a1 := y + 2) (b := 133) (b1 := 133) (congrArg Int32.toInt (w2 (y + 2) 6 (dW_91 x y hxy))) (fun k hk => w2 (y + 2) (133 + k) ((dW_96 x y hxy) k hk)), bKV, q.2.2.2.2.2.2]⟩)
  have hQ2 : zz_RD σ2 x y := ⟨rD, rW, rK, rB, rN, rC, rL, rT, rP, rX, rF, rG, rV⟩
  refine lv_pop hx hb dL_law_1011 rfl ?_
  refine lv_goto (tgt := 1384) hx hb dL_law_1012 (by decide) ?_
  exact kk _ _ _ hRL hQ2 hP hS
theorem gL_law_X8_voice : GoodIn wsL_law (wsV RL 120 RX8 yX8_voice wzX8_voice) := wz_coL bm_788 (wz_coL bm_789 (wz_coL bm_790 (wz_coL bm_2 (wz_inL bm_791))))
theorem gL_law_X9_voice : GoodIn wsL_law (wsV RL 123 RX9 yX9_voice wzX9_voice) := wz_coL bm_823 (wz_coL bm_824 (wz_coL bm_825 (wz_coL bm_5 (wz_inL bm_826))))
theorem dW_601 (x y : Nat) (hxy : x + 76 ≤ y) : ∀ a k : Nat, y ≤ a → a ≤ y + 12 → ¬ ((a) = (x) + 24 ∨ (a) = (x) + 27 ∨ ((x) + 58 ≤ (a) ∧ (a) ≤ (x) + 67) ∨ (a) = (x) + 56 ∨ (a) = (x) + 57) := by intros; omega
theorem dW_602 (x y : Nat) (hxy : x + 76 ≤ y) : ∀ a k : Nat, x ≤ a → a < x + 76 → ¬ (((a) = (y) + 3 ∨ ((y) + 7 ≤ (a) ∧ (a) ≤ (y) + 11)) ∨ ((a) = (y) ∧ ((k) = 18 ∨ (k) = 19)) ∨ (a) = (y) + 12) := by intros; omega
theorem dW_603 (x y : Nat) (hxy : x + 76 ≤ y) : ∀ k : Nat, k ≤ 6 → ¬ ((((y + 1)) = (y) + 3 ∨ ((y) + 7 ≤ ((y + 1)) ∧ ((y + 1)) ≤ (y) + 11)) ∨ (((y + 1)) = (y) ∧ ((k) = 18 ∨ (k) = 19)) ∨ ((y + 1)) = (y) + 12) := by intros; omega
theorem dW_604 (x y : Nat) (hxy : x + 76 ≤ y) : ∀ k : Nat, ¬ (((x + 28)) = (x) + 24 ∨ ((x + 28)) = (x) + 27 ∨ ((x) + 58 ≤ ((x + 28)) ∧ ((x + 28)) ≤ (x) + 67) ∨ ((x + 28)) = (x) + 56 ∨ ((x + 28)) = (x) + 57) := by intros; omega
theorem dW_605 (x y : Nat) (hxy : x + 76 ≤ y) : ¬ ((x) = (x) + 24 ∨ (x) = (x) + 27 ∨ ((x) + 58 ≤ (x) ∧ (x) ≤ (x) + 67) ∨ (x) = (x) + 56 ∨ (x) = (x) + 57) := by omega
theorem dW_606 (x y : Nat) (hxy : x + 76 ≤ y) : ∀ k : Nat, ¬ ((((y + 2)) = (y) + 3 ∨ ((y) + 7 ≤ ((y + 2)) ∧ ((y + 2)) ≤ (y) + 11)) ∨ (((y + 2)) = (y) ∧ ((k) = 18 ∨ (k) = 19)) ∨ ((y + 2)) = (y) + 12) := by intros; omega
theorem dW_607 (x y : Nat) (hxy : x + 76 ≤ y) : ¬ (((y) = (y) + 3 ∨ ((y) + 7 ≤ (y) ∧ (y) ≤ (y) + 11)) ∨ ((y) = (y) ∧ ((2) = 18 ∨ (2) = 19)) ∨ (y) = (y) + 12) := by omega
theorem dW_608 (x y : Nat) (hxy : x + 76 ≤ y) : ∀ k : Nat, ¬ (((x + 1)) = (x) + 24 ∨ ((x + 1)) = (x) + 27 ∨ ((x) + 58 ≤ ((x + 1)) ∧ ((x + 1)) ≤ (x) + 67) ∨ ((x + 1)) = (x) + 56 ∨ ((x + 1)) = (x) + 57) := by intros; omega
theorem dW_609 (x y : Nat) (hxy : x + 76 ≤ y) : ∀ j : Nat, j < 9 → ∀ k : Nat, k < 6 → ¬ (((x + 1 + 6 + 1 * j)) = (x) + 24 ∨ ((x + 1 + 6 + 1 * j)) = (x) + 27 ∨ ((x) + 58 ≤ ((x + 1 + 6 + 1 * j)) ∧ ((x + 1 + 6 + 1 * j)) ≤ (x) + 67) ∨ ((x + 1 + 6 + 1 * j)) = (x) + 56 ∨ ((x + 1 + 6 + 1 * j)) = (x) + 57) := by intros; omega
theorem dW_610 (x y : Nat) (hxy : x + 76 ≤ y) : ∀ k : Nat, 7 ≤ k → k < 61 → ¬ ((((y + 1)) = (y) + 3 ∨ ((y) + 7 ≤ ((y + 1)) ∧ ((y + 1)) ≤ (y) + 11)) ∨ (((y + 1)) = (y) ∧ ((k) = 18 ∨ (k) = 19)) ∨ ((y + 1)) = (y) + 12) := by intros; omega
theorem dW_611 (x y : Nat) (hxy : x + 76 ≤ y) : ∀ j : Nat, j < 6 → ¬ (((x + 1 + 15 + 1 * j)) = (x) + 24 ∨ ((x + 1 + 15 + 1 * j)) = (x) + 27 ∨ ((x) + 58 ≤ ((x + 1 + 15 + 1 * j)) ∧ ((x + 1 + 15 + 1 * j)) ≤ (x) + 67) ∨ ((x + 1 + 15 + 1 * j)) = (x) + 56 ∨ ((x + 1 + 15 + 1 * j)) = (x) + 57) := by intros; omega
theorem dW_612 (x y : Nat) (hxy : x + 76 ≤ y) : ∀ j : Nat, j < 6 → ¬ ((((y + 1)) = (y) + 3 ∨ ((y) + 7 ≤ ((y + 1)) ∧ ((y + 1)) ≤ (y) + 11)) ∨ (((y + 1)) = (y) ∧ (((61 + 2 * j + 0)) = 18 ∨ ((61 + 2 * j + 0)) = 19)) ∨ ((y + 1)) = (y) + 12) := by intros; omega
theorem dW_613 (x y : Nat) (hxy : x + 76 ≤ y) : ∀ j : Nat, j < 4 → ¬ (((x + 68 + 2 * j)) = (x) + 24 ∨ ((x + 68 + 2 * j)) = (x) + 27 ∨ ((x) + 58 ≤ ((x + 68 + 2 * j)) ∧ ((x + 68 + 2 * j)) ≤ (x) + 67) ∨ ((x + 68 + 2 * j)) = (x) + 56 ∨ ((x + 68 + 2 * j)) = (x) + 57) := by intros; omega
theorem dW_614 (x y : Nat) (hxy : x + 76 ≤ y) : ∀ j : Nat, j < 4 → ¬ ((((y + 4)) = (y) + 3 ∨ ((y) + 7 ≤ ((y + 4)) ∧ ((y + 4)) ≤ (y) + 11)) ∨ (((y + 4)) = (y) ∧ ((j) = 18 ∨ (j) = 19)) ∨ ((y + 4)) = (y) + 12) := by intros; omega
theorem dW_615 (x y : Nat) (hxy : x + 76 ≤ y) : ∀ j : Nat, j < 4 → ¬ ((((y + 5)) = (y) + 3 ∨ ((y) + 7 ≤ ((y + 5)) ∧ ((y + 5)) ≤ (y) + 11)) ∨ (((y + 5)) = (y) ∧ ((j) = 18 ∨ (j) = 19)) ∨ ((y + 5)) = (y) + 12) := by intros; omega
theorem dW_616 (x y : Nat) (hxy : x + 76 ≤ y) : ∀ j : Nat, j < 4 → ∀ k : Nat, k < 24 → ¬ (((x + 68 + 2 * j + 1)) = (x) + 24 ∨ ((x + 68 + 2 * j + 1)) = (x) + 27 ∨ ((x) + 58 ≤ ((x + 68 + 2 * j + 1)) ∧ ((x + 68 + 2 * j + 1)) ≤ (x) + 67) ∨ ((x + 68 + 2 * j + 1)) = (x) + 56 ∨ ((x + 68 + 2 * j + 1)) = (x) + 57) := by intros; omega
theorem dW_617 (x y : Nat) (hxy : x + 76 ≤ y) : ∀ k : Nat, k < 96 → ¬ ((((y + 6)) = (y) + 3 ∨ ((y) + 7 ≤ ((y + 6)) ∧ ((y + 6)) ≤ (y) + 11)) ∨ (((y + 6)) = (y) ∧ ((k) = 18 ∨ (k) = 19)) ∨ ((y + 6)) = (y) + 12) := by intros; omega
theorem dW_618 (x y : Nat) (hxy : x + 76 ≤ y) : ¬ (((x + 1)) = (x) + 24 ∨ ((x + 1)) = (x) + 27 ∨ ((x) + 58 ≤ ((x + 1)) ∧ ((x + 1)) ≤ (x) + 67) ∨ ((x + 1)) = (x) + 56 ∨ ((x + 1)) = (x) + 57) := by omega
theorem dW_619 (x y : Nat) (hxy : x + 76 ≤ y) : ∀ k : Nat, ¬ (((x + 1 + 4)) = (x) + 24 ∨ ((x + 1 + 4)) = (x) + 27 ∨ ((x) + 58 ≤ ((x + 1 + 4)) ∧ ((x + 1 + 4)) ≤ (x) + 67) ∨ ((x + 1 + 4)) = (x) + 56 ∨ ((x + 1 + 4)) = (x) + 57) := by intros; omega
theorem dW_620 (x y : Nat) (hxy : x + 76 ≤ y) : ¬ ((((y + 1)) = (y) + 3 ∨ ((y) + 7 ≤ ((y + 1)) ∧ ((y + 1)) ≤ (y) + 11)) ∨ (((y + 1)) = (y) ∧ ((5) = 18 ∨ (5) = 19)) ∨ ((y + 1)) = (y) + 12) := by omega
theorem dW_621 (x y : Nat) (hxy : x + 76 ≤ y) : ∀ k : Nat, k < 60 → ¬ ((((y + 1)) = (y) + 3 ∨ ((y) + 7 ≤ ((y + 1)) ∧ ((y + 1)) ≤ (y) + 11)) ∨ (((y + 1)) = (y) ∧ (((73 + k)) = 18 ∨ ((73 + k)) = 19)) ∨ ((y + 1)) = (y) + 12) := by intros; omega
theorem dW_622 (x y : Nat) (hxy : x + 76 ≤ y) : ∀ a : Nat, (a = x + 1 + 21 ∨ a = x + 1 + 22 ∨ a = x + 1 + 24 ∨ a = x + 1 + 25) → ∀ k : Nat, ¬ ((a) = (x) + 24 ∨ (a) = (x) + 27 ∨ ((x) + 58 ≤ (a) ∧ (a) ≤ (x) + 67) ∨ (a) = (x) + 56 ∨ (a) = (x) + 57) := by intros; omega
theorem dW_623 (x y : Nat) (hxy : x + 76 ≤ y) : ∀ k : Nat, 157 ≤ k → ¬ ((((y + 1)) = (y) + 3 ∨ ((y) + 7 ≤ ((y + 1)) ∧ ((y + 1)) ≤ (y) + 11)) ∨ (((y + 1)) = (y) ∧ ((k) = 18 ∨ (k) = 19)) ∨ ((y + 1)) = (y) + 12) := by intros; omega
theorem dW_624 (x y : Nat) (hxy : x + 76 ≤ y) : ∀ j : Nat, j < 6 → ¬ ((((y + 1)) = (y) + 3 ∨ ((y) + 7 ≤ ((y + 1)) ∧ ((y + 1)) ≤ (y) + 11)) ∨ (((y + 1)) = (y) ∧ (((61 + 2 * j + 1)) = 18 ∨ ((61 + 2 * j + 1)) = 19)) ∨ ((y + 1)) = (y) + 12) := by intros; omega
theorem dW_625 (x y : Nat) (hxy : x + 76 ≤ y) : ∀ k : Nat, k < 24 → ¬ (((x + 1 + 5)) = (x) + 24 ∨ ((x + 1 + 5)) = (x) + 27 ∨ ((x) + 58 ≤ ((x + 1 + 5)) ∧ ((x + 1 + 5)) ≤ (x) + 67) ∨ ((x + 1 + 5)) = (x) + 56 ∨ ((x + 1 + 5)) = (x) + 57) := by intros; omega
theorem dW_626 (x y : Nat) (hxy : x + 76 ≤ y) : ¬ ((((y + 1)) = (y) + 3 ∨ ((y) + 7 ≤ ((y + 1)) ∧ ((y + 1)) ≤ (y) + 11)) ∨ (((y + 1)) = (y) ∧ ((6) = 18 ∨ (6) = 19)) ∨ ((y + 1)) = (y) + 12) := by omega
theorem dW_627 (x y : Nat) (hxy : x + 76 ≤ y) : ∀ k : Nat, k < 24 → ¬ ((((y + 1)) = (y) + 3 ∨ ((y) + 7 ≤ ((y + 1)) ∧ ((y + 1)) ≤ (y) + 11)) ∨ (((y + 1)) = (y) ∧ (((133 + k)) = 18 ∨ ((133 + k)) = 19)) ∨ ((y + 1)) = (y) + 12) := by intros; omega
theorem dW_628 (x y : Nat) (hxy : x + 76 ≤ y) : ∀ j : Nat, j < 9 → ∀ k : Nat, k < 6 → ¬ (((x + 28 + 6 + 1 * j)) = (x) + 24 ∨ ((x + 28 + 6 + 1 * j)) = (x) + 27 ∨ ((x) + 58 ≤ ((x + 28 + 6 + 1 * j)) ∧ ((x + 28 + 6 + 1 * j)) ≤ (x) + 67) ∨ ((x + 28 + 6 + 1 * j)) = (x) + 56 ∨ ((x + 28 + 6 + 1 * j)) = (x) + 57) := by intros; omega
theorem dW_629 (x y : Nat) (hxy : x + 76 ≤ y) : ∀ k : Nat, 7 ≤ k → k < 61 → ¬ ((((y + 2)) = (y) + 3 ∨ ((y) + 7 ≤ ((y + 2)) ∧ ((y + 2)) ≤ (y) + 11)) ∨ (((y + 2)) = (y) ∧ ((k) = 18 ∨ (k) = 19)) ∨ ((y + 2)) = (y) + 12) := by intros; omega
theorem dW_630 (x y : Nat) (hxy : x + 76 ≤ y) : ∀ j : Nat, j < 6 → ¬ (((x + 28 + 15 + 1 * j)) = (x) + 24 ∨ ((x + 28 + 15 + 1 * j)) = (x) + 27 ∨ ((x) + 58 ≤ ((x + 28 + 15 + 1 * j)) ∧ ((x + 28 + 15 + 1 * j)) ≤ (x) + 67) ∨ ((x + 28 + 15 + 1 * j)) = (x) + 56 ∨ ((x + 28 + 15 + 1 * j)) = (x) + 57) := by intros; omega
theorem dW_631 (x y : Nat) (hxy : x + 76 ≤ y) : ∀ j : Nat, j < 6 → ¬ ((((y + 2)) = (y) + 3 ∨ ((y) + 7 ≤ ((y + 2)) ∧ ((y + 2)) ≤ (y) + 11)) ∨ (((y + 2)) = (y) ∧ (((61 + 2 * j + 0)) = 18 ∨ ((61 + 2 * j + 0)) = 19)) ∨ ((y + 2)) = (y) + 12) := by intros; omega
theorem dW_632 (x y : Nat) (hxy : x + 76 ≤ y) : ¬ (((x + 28)) = (x) + 24 ∨ ((x + 28)) = (x) + 27 ∨ ((x) + 58 ≤ ((x + 28)) ∧ ((x + 28)) ≤ (x) + 67) ∨ ((x + 28)) = (x) + 56 ∨ ((x + 28)) = (x) + 57) := by omega
theorem dW_633 (x y : Nat) (hxy : x + 76 ≤ y) : ∀ k : Nat, ¬ (((x + 28 + 4)) = (x) + 24 ∨ ((x + 28 + 4)) = (x) + 27 ∨ ((x) + 58 ≤ ((x + 28 + 4)) ∧ ((x + 28 + 4)) ≤ (x) + 67) ∨ ((x + 28 + 4)) = (x) + 56 ∨ ((x + 28 + 4)) = (x) + 57) := by intros; omega
theorem dW_634 (x y : Nat) (hxy : x + 76 ≤ y) : ¬ ((((y + 2)) = (y) + 3 ∨ ((y) + 7 ≤ ((y + 2)) ∧ ((y + 2)) ≤ (y) + 11)) ∨ (((y + 2)) = (y) ∧ ((5) = 18 ∨ (5) = 19)) ∨ ((y + 2)) = (y) + 12) := by omega
theorem dW_635 (x y : Nat) (hxy : x + 76 ≤ y) : ∀ k : Nat, k < 60 → ¬ ((((y + 2)) = (y) + 3 ∨ ((y) + 7 ≤ ((y + 2)) ∧ ((y + 2)) ≤ (y) + 11)) ∨ (((y + 2)) = (y) ∧ (((73 + k)) = 18 ∨ ((73 + k)) = 19)) ∨ ((y + 2)) = (y) + 12) := by intros; omega
theorem dW_636 (x y : Nat) (hxy : x + 76 ≤ y) : ∀ a : Nat, (a = x + 28 + 21 ∨ a = x + 28 + 22 ∨ a = x + 28 + 24 ∨ a = x + 28 + 25) → ∀ k : Nat, ¬ ((a) = (x) + 24 ∨ (a) = (x) + 27 ∨ ((x) + 58 ≤ (a) ∧ (a) ≤ (x) + 67) ∨ (a) = (x) + 56 ∨ (a) = (x) + 57) := by intros; omega
theorem dW_637 (x y : Nat) (hxy : x + 76 ≤ y) : ∀ k : Nat, 157 ≤ k → ¬ ((((y + 2)) = (y) + 3 ∨ ((y) + 7 ≤ ((y + 2)) ∧ ((y + 2)) ≤ (y) + 11)) ∨ (((y + 2)) = (y) ∧ ((k) = 18 ∨ (k) = 19)) ∨ ((y + 2)) = (y) + 12) := by intros; omega
theorem dW_638 (x y : Nat) (hxy : x + 76 ≤ y) : ∀ j : Nat, j < 6 → ¬ ((((y + 2)) = (y) + 3 ∨ ((y) + 7 ≤ ((y + 2)) ∧ ((y + 2)) ≤ (y) + 11)) ∨ (((y + 2)) = (y) ∧ (((61 + 2 * j + 1)) = 18 ∨ ((61 + 2 * j + 1)) = 19)) ∨ ((y + 2)) = (y) + 12) := by intros; omega
theorem dW_639 (x y : Nat) (hxy : x + 76 ≤ y) : ∀ k : Nat, k < 24 → ¬ (((x + 28 + 5)) = (x) + 24 ∨ ((x + 28 + 5)) = (x) + 27 ∨ ((x) + 58 ≤ ((x + 28 + 5)) ∧ ((x + 28 + 5)) ≤ (x) + 67) ∨ ((x + 28 + 5)) = (x) + 56 ∨ ((x + 28 + 5)) = (x) + 57) := by intros; omega
theorem dW_640 (x y : Nat) (hxy : x + 76 ≤ y) : ¬ ((((y + 2)) = (y) + 3 ∨ ((y) + 7 ≤ ((y + 2)) ∧ ((y + 2)) ≤ (y) + 11)) ∨ (((y + 2)) = (y) ∧ ((6) = 18 ∨ (6) = 19)) ∨ ((y + 2)) = (y) + 12) := by omega
theorem dW_641 (x y : Nat) (hxy : x + 76 ≤ y) : ∀ k : Nat, k < 24 → ¬ ((((y + 2)) = (y) + 3 ∨ ((y) + 7 ≤ ((y + 2)) ∧ ((y + 2)) ≤ (y) + 11)) ∨ (((y + 2)) = (y) ∧ (((133 + k)) = 18 ∨ ((133 + k)) = 19)) ∨ ((y + 2)) = (y) + 12) := by intros; omega
set_option maxHeartbeats 4000000 in
set_option maxRecDepth 100000 in
theorem lc_voice {p : Program} {l : Launch} {e : Env} {s : State} {m : MethodId} {below : List Frame} {meth : Method} {c : Code} {b L x y : Nat} {xs : Nat → Int32} {E : zz_E} {Q : State → Prop} (hA : zz_LA p s m c b L xs E x y) (i : Int32) (hi : 0 ≤ i.toInt ∧ i.toInt + 6 ≤ L) (σ : zz_S) (H : Heap) (locs : List Loc) (ls : Array Slot) (hR : zz_RL σ x y) (hQ : zz_RD σ x y) (hP : zz_P E σ H) (hS : va_S (zz_A E) s.heap H locs) (hl : lv_has ls 4 [(0, .ref b), (1, .ref x), (2, .ref y), (3, .int i)])
    (kk : ∀ (σ1 : zz_S) (H1 : Heap) (locs1 : List Loc), zz_RL σ1 x y → zz_RD σ1 x y → zz_P E σ1 H1 → va_S (zz_A E) s.heap H1 locs1 → W p l e room_1 s m #[Value.ref b] below meth c H1 locs1 600000 7302250 Q (F0 m 1384 ls [])) : W p l e room_1 s m #[Value.ref b] below meth c H locs 600000 7302250 Q (F0 m 1015 ls []) := by
  obtain ⟨hx, hb, hml, hown, hts, hX, hbl, hbE, hL, gL, gM, hxy, hK⟩ := hA
  have hbA : ¬ zz_A E b := fun h => absurd (hbE b h) (Nat.not_le.mpr hbl)
  have k_1 : (1 : Int32).toInt = 1 := by decide +kernel
  have k_2 : (2 : Int32).toInt = 2 := by decide +kernel
  have k_3 : (3 : Int32).toInt = 3 := by decide +kernel
  refine lv_aload_n hx hb dL_law_1015 rfl (lv_at hl 1 rfl) ?_
  refine lv_aload_n hx hb dL_law_1016 rfl (lv_at hl 0 rfl) ?_
  refine lv_iload_n hx hb dL_law_1017 rfl (lv_at hl 3 rfl) ?_
  refine lv_iconst (v := 1) hx hb dL_law_1018 (by decide) ?_
  refine lv_iadd hx hb dL_law_1019 ?_
  refine lv_topi (fun n1 e1 => ?_)
  have f1 : n1.toInt = (i).toInt + (1 : Int32).toInt := zz_addT e1 (by omega) (by omega)
  refine va_sld hx hb hX hbl hbA hS (vp_in_iff.mpr ⟨by omega, by omega⟩) dL_law_1020 ?_
  refine lv_topi (fun v2 u2 => ?_)
  refine lv_aload_n hx hb dL_law_1021 rfl (lv_at hl 0 rfl) ?_
  refine lv_iload_n hx hb dL_law_1022 rfl (lv_at hl 3 rfl) ?_
  refine lv_iconst (v := 2) hx hb dL_law_1023 (by decide) ?_
  refine lv_iadd hx hb dL_law_1024 ?_
  refine lv_topi (fun n3 e3 => ?_)
  have f3 : n3.toInt = (i).toInt + (2 : Int32).toInt := zz_addT e3 (by omega) (by omega)
  refine va_sld hx hb hX hbl hbA hS (vp_in_iff.mpr ⟨by omega, by omega⟩) dL_law_1025 ?_
  refine lv_topi (fun v4 u4 => ?_)
  refine lv_aload_n hx hb dL_law_1026 rfl (lv_at hl 0 rfl) ?_
  refine lv_iload_n hx hb dL_law_1027 rfl (lv_at hl 3 rfl) ?_
  refine lv_iconst (v := 3) hx hb dL_law_1028 (by decide) ?_
  refine lv_iadd hx hb dL_law_1029 ?_
  refine lv_topi (fun n5 e5 => ?_)
  have f5 : n5.toInt = (i).toInt + (3 : Int32).toInt := zz_addT e5 (by omega) (by omega)
  refine va_sld hx hb hX hbl hbA hS (vp_in_iff.mpr ⟨by omega, by omega⟩) dL_law_1030 ?_
  refine lv_topi (fun v6 u6 => ?_)
  refine zz_callVi (As := [.int v2, .int v4, .int v6]) (rest := []) ⟨hx, hb, hml, hown, hts⟩ hK hP hS (c_X8_voice l E σ x v2 v4 v6 gL hR.1) (cwV 3 hts gL_law_X8_voice rfl rfl rfl (by decide +kernel) ⟨Nat.le_of_ble_eq_true rfl, Nat.le_of_ble_eq_true rfl⟩) (gL.1) rfl rfl hl.1 rfl (Nat.le_of_ble_eq_true rfl) dL_law_1031 ⟨Nat.le_refl _, Nat.le_refl _⟩ (fun r1 σ1 H locs q1 hP hS => ?_)
  try dsimp only at q1
  obtain ⟨w1, p1⟩ := q1
  have B : ∀ a k : Nat, y ≤ a → a ≤ y + 12 → σ1 a k = σ a k := fun a k h1 h2 => w1 a k ((dW_601 x y hxy) a k h1 h2)
  have hJ1 : zz_IM σ1 y := hR.2.1.far B
  refine lv_pop hx hb dL_law_1034 rfl ?_
  refine lv_aload_n hx hb dL_law_1035 rfl (lv_at hl 2 rfl) ?_
  refine lv_aload_n hx hb dL_law_1036 rfl (lv_at hl 0 rfl) ?_
  refine lv_iload_n hx hb dL_law_1037 rfl (lv_at hl 3 rfl) ?_
  refine lv_iconst (v := 1) hx hb dL_law_1038 (by decide) ?_
  refine lv_iadd hx hb dL_law_1039 ?_
  refine lv_topi (fun n8 e8 => ?_)
  have f8 : n8.toInt = (i).toInt + (1 : Int32).toInt := zz_addT e8 (by omega) (by omega)
  refine va_sld hx hb hX hbl hbA hS (vp_in_iff.mpr ⟨by omega, by omega⟩) dL_law_1040 ?_
  refine lv_topi (fun v9 u9 => ?_)
  have z9 : v9 = v2 := by rw [u9, u2, e8, e1]
  have zt9 := congrArg Int32.toInt z9
  refine lv_aload_n hx hb dL_law_1041 rfl (lv_at hl 0 rfl) ?_
  refine lv_iload_n hx hb dL_law_1042 rfl (lv_at hl 3 rfl) ?_
  refine lv_iconst (v := 2) hx hb dL_law_1043 (by decide) ?_
  refine lv_iadd hx hb dL_law_1044 ?_
  refine lv_topi (fun n10 e10 => ?_)
  have f10 : n10.toInt = (i).toInt + (2 : Int32).toInt := zz_addT e10 (by omega) (by omega)
  refine va_sld hx hb hX hbl hbA hS (vp_in_iff.mpr ⟨by omega, by omega⟩) dL_law_1045 ?_
  refine lv_topi (fun v11 u11 => ?_)
  have z11 : v11 = v4 := by rw [u11, u4, e10, e3]
  have zt11 := congrArg Int32.toInt z11
  refine lv_aload_n hx hb dL_law_1046 rfl (lv_at hl 0 rfl) ?_
  refine lv_iload_n hx hb dL_law_1047 rfl (lv_at hl 3 rfl) ?_
  refine lv_iconst (v := 3) hx hb dL_law_1048 (by decide) ?_
  refine lv_iadd hx hb dL_law_1049 ?_
  refine lv_topi (fun n12 e12 => ?_)
  have f12 : n12.toInt = (i).toInt + (3 : Int32).toInt := zz_addT e12 (by omega) (by omega)
  refine va_sld hx hb hX hbl hbA hS (vp_in_iff.mpr ⟨by omega, by omega⟩) dL_law_1050 ?_
  refine lv_topi (fun v13 u13 => ?_)
  have z13 : v13 = v6 := by rw [u13, u6, e12, e5]
  have zt13 := congrArg Int32.toInt z13
  refine zz_callVi (As := [.int v9, .int v11, .int v13]) (rest := []) ⟨hx, hb, hml, hown, hts⟩ hK hP hS (c_X9_voice l E σ1 y v9 v11 v13 gM hJ1) (cwV 3 hts gL_law_X9_voice rfl rfl rfl (by decide +kernel) ⟨Nat.le_of_ble_eq_true rfl, Nat.le_of_ble_eq_true rfl⟩) (gM.1) rfl rfl hl.1 rfl (Nat.le_of_ble_eq_true rfl) dL_law_1051 ⟨Nat.le_refl _, Nat.le_refl _⟩ (fun r2 σ2 H locs q2 hP hS => ?_)
  try dsimp only at q2
  obtain ⟨w2, p2⟩ := q2
  have A : ∀ a k : Nat, x ≤ a → a < x + 76 → σ2 a k = σ1 a k := fun a k h1 h2 => w2 a k ((dW_602 x y hxy) a k h1 h2)
  obtain ⟨i1, p1⟩ := p1
  obtain ⟨i2, p2⟩ := p2
  try simp only [z9, z11, z13] at p2
  have hRL : zz_RL σ2 x y := hR.soft i1 i2 A B (fun k => w1 (x + 1) k ((dW_608 x y hxy) k)) (fun k hk => w2 (y + 1) k ((dW_603 x y hxy) k hk)) (fun k => w1 (x + 28) k ((dW_604 x y hxy) k)) (w1 x 2 (dW_605 x y hxy)) (fun k => w2 (y + 2) k ((dW_606 x y hxy) k)) (w2 y 2 (dW_607 x y hxy))
  obtain ⟨hqD, hqW, hqK, hqB, hqN, hqC, hqL, hqT, hqP, hqX, hqF, hqG, hqV⟩ := hQ
  obtain ⟨aD, aW, aKD, aKW, aB, aN, aC, aL, aT, aP, aX, aKP, aKX⟩ := zz_aX A
  obtain ⟨bD, bW, bKD, bKW, bB, bN, bC, bL, bT, bP, bX, bKP, bKX⟩ := zz_bM hR.2.1 B
  obtain ⟨aF, aKF, aV, aKV⟩ := zy_aX2 A
  obtain ⟨bF, bKF, bV, bKV⟩ := zy_bM2 B
  have rD : zz_DX σ2 (x + 1) = zz_DM σ2 (y + 1) := by rw [aD, zz_DXk (r := x + 1) w1 (dW_609 x y hxy), zz_DMk (a := y + 1) w2 (dW_610 x y hxy), bD, hqD]
  have rW : zz_PX 0 σ2 (x + 1) = zz_PM 0 σ2 (y + 1) := by rw [aW, zz_PXk (f := 0) (r := x + 1) w1 (dW_611 x y hxy), zz_PMk (f := 0) (a := y + 1) w2 (dW_612 x y hxy), bW, hqW]
  have rB : zz_HX 0 σ2 x = zz_HM σ2 (y + 4) := by rw [aB, zz_HX.eq (f := 0) (x := x) (fun j hj => w1 _ _ ((dW_613 x y hxy) j hj)), zz_HM.eq (a := y + 4) (fun j hj => w2 _ _ ((dW_614 x y hxy) j hj)), bB, hqB]
  have rN : zz_HX 1 σ2 x = zz_HM σ2 (y + 5) := by rw [aN, zz_HX.eq (f := 1) (x := x) (fun j hj => w1 _ _ ((dW_613 x y hxy) j hj)), zz_HM.eq (a := y + 5) (fun j hj => w2 _ _ ((dW_615 x y hxy) j hj)), bN, hqN]
  have rC : zz_CX σ2 x = zz_CM σ2 (y + 6) := by rw [aC, zz_CX.eq (x := x) (fun j hj k hk => w1 _ _ ((dW_616 x y hxy) j hj k hk)), zz_CM.eq (a := y + 6) (fun k hk => w2 _ _ ((dW_617 x y hxy) k hk)), bC, hqC]
  have rP : zz_Tp σ2 (x + 1 + 4) (σ2 (x + 1) 9).toInt = zz_Tm σ2 (y + 1) := by rw [aP, zz_Tp.all (a := x + 1 + 4) (b := x + 1 + 4) (congrArg Int32.toInt (w1 (x + 1) 9 (dW_618 x y hxy))) (fun k => w1 _ k ((dW_619 x y hxy) k)), zz_Tm.eq (a := y + 1) (b := y + 1) (w2 (y + 1) 5 (dW_620 x y hxy)) hJ1.1.2.2.2.2.1.2 (fun k hk => w2 (y + 1) (73 + k) ((dW_621 x y hxy) k hk)), bP, hqP]
  have rX : zz_tts (zz_XT σ2 (x + 1)) (zz_MT σ2 (y + 1)) := by rw [aX, zz_XT.all (r := x + 1) (fun a ha k => w1 a k ((dW_622 x y hxy) a ha k)), zz_MT.hi (a := y + 1) (b := y + 1) (fun k hk => w2 (y + 1) k ((dW_623 x y hxy) k hk)), bX]; exact hqX
  have rF : zz_PX 1 σ2 (x + 1) = zz_PM 1 σ2 (y + 1) := by rw [aF, zz_PXk (f := 1) (r := x + 1) w1 (dW_611 x y hxy), zz_PMk (f := 1) (a := y + 1) w2 (dW_624 x y hxy), bF, hqF]
  have rV : zy_wv σ2 (x + 1 + 5) 0 (σ2 (x + 1) 11).toInt = zy_wv σ2 (y + 1) 133 (σ2 (y + 1) 6).toInt := by rw [aV, zy_wv.eq (a := x + 1 + 5) (a1 := x + 1 + 5) (b := 0) (b1 := 0) (congrArg Int32.toInt (w1 (x + 1) 11 (dW_618 x y hxy))) (fun k hk => w1 (x + 1 + 5) (0 + k) ((dW_625 x y hxy) k hk)), zy_wv.eq (a := y + 1) (a1 := y + 1) (b := 133) (b1 := 133) (congrArg Int32.toInt (w2 (y + 1) 6 (dW_626 x y hxy))) (fun k hk => w2 (y + 1) (133 + k) ((dW_627 x y hxy) k hk)), bV, hqV]
  have rG : zy_FB (zz_PM 1 σ2 (y + 1)) := by rw [zz_PMk (f := 1) (a := y + 1) w2 (dW_624 x y hxy), bF]; exact hqG
  have rK : (σ2 x 2).toInt = 0 ∨ (zz_DX σ2 (x + 28) = zz_DM σ2 (y + 2) ∧ zz_PX 0 σ2 (x + 28) = zz_PM 0 σ2 (y + 2) ∧ zz_Tp σ2 (x + 28 + 4) (σ2 (x + 28) 9).toInt = zz_Tm σ2 (y + 2) ∧ zz_tts (zz_XT σ2 (x + 28)) (zz_MT σ2 (y + 2)) ∧ zz_PX 1 σ2 (x + 28) = zz_PM 1 σ2 (y + 2) ∧ zy_FB (zz_PM 1 σ2 (y + 2)) ∧ zy_wv σ2 (x + 28 + 5) 0 (σ2 (x + 28) 11).toInt = zy_wv σ2 (y + 2) 133 (σ2 (y + 2) 6).toInt) := hqK.elim (fun q => Or.inl ((congrArg Int32.toInt ((A x 2 (by omega) (by omega)).trans (w1 x 2 (dW_605 x y hxy)))).trans q)) (fun q => Or.inr ⟨by rw [aKD, zz_DXk (r := x + 28) w1 (dW_628 x y hxy), zz_DMk (a := y + 2) w2 (dW_629 x y hxy), bKD, q.1], by rw [aKW, zz_PXk (f := 0) (r := x + 28) w1 (dW_630 x y hxy), zz_PMk (f := 0) (a := y + 2) w2 (dW_631 x y hxy), bKW, q.2.1], by rw [aKP, zz_Tp.all (a := x + 28 + 4) (b := x + 28 + 4) (congrArg Int32.toInt (w1 (x + 28) 9 (dW_632 x y hxy))) (fun k => w1 _ k ((dW_633 x y hxy) k)), zz_Tm.eq (a := y + 2) (b := y + 2) (w2 (y + 2) 5 (dW_634 x y hxy)) hJ1.2.1.2.2.2.2.1.2 (fun k hk => w2 (y + 2) (73 + k) ((dW_635 x y hxy) k hk)), bKP, q.2.2.1], by rw [aKX, zz_XT.all (r := x + 28) (fun a ha k => w1 a k ((dW_636 x y hxy) a ha k)), zz_MT.hi (a := y + 2) (b := y + 2) (fun k hk => w2 (y + 2) k ((dW_637 x y hxy) k hk)), bKX]; exact q.2.2.2.1, by rw [aKF, zz_PXk (f := 1) (r := x + 28) w1 (dW_630 x y hxy), zz_PMk (f := 1) (a := y + 2) w2 (dW_638 x y hxy), bKF, q.2.2.2.2.1], by rw [zz_PMk (f := 1) (a := y + 2) w2 (dW_638 x y hxy), bKF]; exact q.2.2.2.2.2.1, by rw [aKV, zy_wv.eq (a := x + 28 + 5) (a1 := x + 28 + 5) (b := 0) (b1 := 0) (congrArg Int32.toInt (w1 (x + 28) 11 (dW_632 x y hxy))) (fun k hk => w1 (x + 28 + 5) (0 + k) ((dW_639 x y hxy) k hk)), zy_wv.eq (a := y + 2) (a1 := y + 2) (b := 133) (b1 := 133) (congrArg Int32.toInt (w2 (y + 2) 6 (dW_640 x y hxy))) (fun k hk => w2 (y + 2) (133 + k) ((dW_641 x y hxy) k hk)), bKV, q.2.2.2.2.2.2]⟩)
  have gc4 : (σ (x + 1) 4).toInt = (σ1 (y + 1) 2).toInt := hR.2.2.1.2.2.2.1.trans (congrArg Int32.toInt (B (y + 1) 2 (by omega) (by omega))).symm
  have hid := hR.1.1.2.2.2.2.2.2.2.2.2
  have hct := hR.1.1.2.2.1
  have eDq : zz_DX σ (x + 1) = zz_DM σ1 (y + 1) := hqD.trans bD.symm
  have eTq : zz_TV σ (x + 56 + 1) = zz_TV σ1 (y + 12) := hqT.trans bT.symm
  have rVo : (σ2 (x + 56) 1).toInt = (σ2 y 18).toInt ∧ zz_TV σ2 (x + 56 + 1) = zz_TV σ2 (y + 12) ∧ r1.toInt = r2.toInt := by
    rcases p1 with ⟨a1, a2, a3, a4⟩ | ⟨a1, a2⟩
    · rcases p2 with ⟨b1, b2, b3, b4⟩ | ⟨b1, b2⟩
      · exact ⟨by rw [aL, a4, b4, bL, hqL], by rw [aT, a3, b3, bT, hqT], a2.trans b2.symm⟩
      · exact absurd b1 (by omega)
    · rcases p2 with ⟨b1, b2, b3, b4⟩ | ⟨b1, b2⟩
      · exact absurd a1 (by omega)
      · rw [zz_voice_eq eDq hid (by omega) (by omega), eTq] at a2
        obtain ⟨u1, u2, u3⟩ := a2.uniq b2
        exact ⟨by rw [aL, u2], by rw [aT, u1], u3⟩
  have rL := rVo.1
  have rT := rVo.2.1
  have hQ2 : zz_RD σ2 x y := ⟨rD, rW, rK, rB, rN, rC, rL, rT, rP, rX, rF, rG, rV⟩
  refine lv_pop hx hb dL_law_1054 rfl ?_
  refine lv_goto (tgt := 1384) hx hb dL_law_1055 (by decide) ?_
  exact kk _ _ _ hRL hQ2 hP hS
theorem gL_law_X8_body : GoodIn wsL_law (wsV RL 124 RX8 yX8_body wzX8_body) := wz_coL bm_874 (wz_coL bm_875 (wz_coL bm_876 (wz_coL bm_2 (wz_inL bm_877))))
theorem gL_law_X9_body : GoodIn wsL_law (wsV RL 127 RX9 yX9_body wzX9_body) := wz_coL bm_880 (wz_coL bm_881 (wz_coL bm_882 (wz_coL bm_5 (wz_inL bm_883))))
set_option maxHeartbeats 4000000 in
set_option maxRecDepth 100000 in
theorem lc_body {p : Program} {l : Launch} {e : Env} {s : State} {m : MethodId} {below : List Frame} {meth : Method} {c : Code} {b L x y : Nat} {xs : Nat → Int32} {E : zz_E} {Q : State → Prop} (hA : zz_LA p s m c b L xs E x y) (i : Int32) (hi : 0 ≤ i.toInt ∧ i.toInt + 6 ≤ L) (σ : zz_S) (H : Heap) (locs : List Loc) (ls : Array Slot) (hR : zz_RL σ x y) (hQ : zz_RD σ x y) (hP : zz_P E σ H) (hS : va_S (zz_A E) s.heap H locs) (hl : lv_has ls 4 [(0, .ref b), (1, .ref x), (2, .ref y), (3, .int i)])
    (kk : ∀ (σ1 : zz_S) (H1 : Heap) (locs1 : List Loc), zz_RL σ1 x y → zz_RD σ1 x y → zz_P E σ1 H1 → va_S (zz_A E) s.heap H1 locs1 → W p l e room_1 s m #[Value.ref b] below meth c H1 locs1 600000 7302250 Q (F0 m 1384 ls [])) : W p l e room_1 s m #[Value.ref b] below meth c H locs 600000 7302250 Q (F0 m 1058 ls []) := by
  obtain ⟨hx, hb, hml, hown, hts, hX, hbl, hbE, hL, gL, gM, hxy, hK⟩ := hA
  have hbA : ¬ zz_A E b := fun h => absurd (hbE b h) (Nat.not_le.mpr hbl)
  have k_1 : (1 : Int32).toInt = 1 := by decide +kernel
  refine lv_aload_n hx hb dL_law_1058 rfl (lv_at hl 1 rfl) ?_
  refine lv_aload_n hx hb dL_law_1059 rfl (lv_at hl 0 rfl) ?_
  refine lv_iload_n hx hb dL_law_1060 rfl (lv_at hl 3 rfl) ?_
  refine lv_iconst (v := 1) hx hb dL_law_1061 (by decide) ?_
  refine lv_iadd hx hb dL_law_1062 ?_
  refine lv_topi (fun n1 e1 => ?_)
  have f1 : n1.toInt = (i).toInt + (1 : Int32).toInt := zz_addT e1 (by omega) (by omega)
  refine va_sld hx hb hX hbl hbA hS (vp_in_iff.mpr ⟨by omega, by omega⟩) dL_law_1063 ?_
  refine lv_topi (fun v2 u2 => ?_)
  refine zz_callVi (As := [.int v2]) (rest := []) ⟨hx, hb, hml, hown, hts⟩ hK hP hS (c_X8_body l E σ x v2 gL hR.1) (cwV 1 hts gL_law_X8_body rfl rfl rfl (by decide +kernel) ⟨Nat.le_of_ble_eq_true rfl, Nat.le_of_ble_eq_true rfl⟩) (gL.1) rfl rfl hl.1 rfl (Nat.le_of_ble_eq_true rfl) dL_law_1064 ⟨Nat.le_refl _, Nat.le_refl _⟩ (fun r1 σ1 H locs q1 hP hS => ?_)
  try dsimp only at q1
  obtain ⟨w1, p1⟩ := q1
  have B : ∀ a k : Nat, y ≤ a → a ≤ y + 12 → σ1 a k = σ a k := fun a k h1 h2 => w1 a k ((dW_55 x y hxy) a k h1 h2)
  have hJ1 : zz_IM σ1 y := hR.2.1.far B
  refine lv_pop hx hb dL_law_1067 rfl ?_
  refine lv_aload_n hx hb dL_law_1068 rfl (lv_at hl 2 rfl) ?_
  refine lv_aload_n hx hb dL_law_1069 rfl (lv_at hl 0 rfl) ?_
  refine lv_iload_n hx hb dL_law_1070 rfl (lv_at hl 3 rfl) ?_
  refine lv_iconst (v := 1) hx hb dL_law_1071 (by decide) ?_
  refine lv_iadd hx hb dL_law_1072 ?_
  refine lv_topi (fun n4 e4 => ?_)
  have f4 : n4.toInt = (i).toInt + (1 : Int32).toInt := zz_addT e4 (by omega) (by omega)
  refine va_sld hx hb hX hbl hbA hS (vp_in_iff.mpr ⟨by omega, by omega⟩) dL_law_1073 ?_
  refine lv_topi (fun v5 u5 => ?_)
  have z5 : v5 = v2 := by rw [u5, u2, e4, e1]
  have zt5 := congrArg Int32.toInt z5
  refine zz_callVi (As := [.int v5]) (rest := []) ⟨hx, hb, hml, hown, hts⟩ hK hP hS (c_X9_body l E σ1 y v5 gM hJ1) (cwV 1 hts gL_law_X9_body rfl rfl rfl (by decide +kernel) ⟨Nat.le_of_ble_eq_true rfl, Nat.le_of_ble_eq_true rfl⟩) (gM.1) rfl rfl hl.1 rfl (Nat.le_of_ble_eq_true rfl) dL_law_1074 ⟨Nat.le_refl _, Nat.le_refl _⟩ (fun r2 σ2 H locs q2 hP hS => ?_)
  try dsimp only at q2
  obtain ⟨w2, p2⟩ := q2
  have A : ∀ a k : Nat, x ≤ a → a < x + 76 → σ2 a k = σ1 a k := fun a k h1 h2 => w2 a k ((dW_56 x y hxy) a k h1 h2)
  have i1 : zz_IX σ1 x := hR.1.soft (w1.mono (dW_57 x y hxy))
  have i2 : zz_IM σ2 y := hJ1.soft (w2.mono (dW_58 x y hxy))
  try simp only [z5] at p2
  have hRL : zz_RL σ2 x y := hR.soft i1 i2 A B (fun k => w1 (x + 1) k ((dW_64 x y hxy) k)) (fun k hk => w2 (y + 1) k ((dW_59 x y hxy) k hk)) (fun k => w1 (x + 28) k ((dW_60 x y hxy) k)) (w1 x 2 (dW_61 x y hxy)) (fun k => w2 (y + 2) k ((dW_62 x y hxy) k)) (w2 y 2 (dW_63 x y hxy))
  obtain ⟨hqD, hqW, hqK, hqB, hqN, hqC, hqL, hqT, hqP, hqX, hqF, hqG, hqV⟩ := hQ
  obtain ⟨aD, aW, aKD, aKW, aB, aN, aC, aL, aT, aP, aX, aKP, aKX⟩ := zz_aX A
  obtain ⟨bD, bW, bKD, bKW, bB, bN, bC, bL, bT, bP, bX, bKP, bKX⟩ := zz_bM hR.2.1 B
  obtain ⟨aF, aKF, aV, aKV⟩ := zy_aX2 A
  obtain ⟨bF, bKF, bV, bKV⟩ := zy_bM2 B
  have rD : zz_DX σ2 (x + 1) = zz_DM σ2 (y + 1) := by rw [aD, zz_DXk (r := x + 1) w1 (dW_65 x y hxy), zz_DMk (a := y + 1) w2 (dW_66 x y hxy), bD, hqD]
  have rW : zz_PX 0 σ2 (x + 1) = zz_PM 0 σ2 (y + 1) := by rw [aW, zz_PXk (f := 0) (r := x + 1) w1 (dW_67 x y hxy), zz_PMk (f := 0) (a := y + 1) w2 (dW_68 x y hxy), bW, hqW]
  have rB : zz_HX 0 σ2 x = zz_HM σ2 (y + 4) := by rw [aB, zz_HX.eq (f := 0) (x := x) (fun j hj => w1 _ _ ((dW_69 x y hxy) j hj)), zz_HM.eq (a := y + 4) (fun j hj => w2 _ _ ((dW_70 x y hxy) j hj)), bB, hqB]
  have rN : zz_HX 1 σ2 x = zz_HM σ2 (y + 5) := by rw [aN, zz_HX.eq (f := 1) (x := x) (fun j hj => w1 _ _ ((dW_69 x y hxy) j hj)), zz_HM.eq (a := y + 5) (fun j hj => w2 _ _ ((dW_71 x y hxy) j hj)), bN, hqN]
  have rC : zz_CX σ2 x = zz_CM σ2 (y + 6) := by rw [aC, zz_CX.eq (x := x) (fun j hj k hk => w1 _ _ ((dW_72 x y hxy) j hj k hk)), zz_CM.eq (a := y + 6) (fun k hk => w2 _ _ ((dW_73 x y hxy) k hk)), bC, hqC]
  have rL : (σ2 (x + 56) 1).toInt = (σ2 y 18).toInt := by rw [aL, congrArg Int32.toInt (w1 (x + 56) 1 (dW_74 x y hxy)), congrArg Int32.toInt (w2 y 18 (dW_63 x y hxy)), bL, hqL]
  have rT : zz_TV σ2 (x + 56 + 1) = zz_TV σ2 (y + 12) := by rw [aT, zz_TV.eq (a := x + 56 + 1) (b := x + 56 + 1) (fun k _ => w1 _ k ((dW_75 x y hxy) k)), zz_TV.eq (a := y + 12) (b := y + 12) (fun k _ => w2 _ k ((dW_76 x y hxy) k)), bT, hqT]
  have rP : zz_Tp σ2 (x + 1 + 4) (σ2 (x + 1) 9).toInt = zz_Tm σ2 (y + 1) := by rw [aP, zz_Tp.all (a := x + 1 + 4) (b := x + 1 + 4) (congrArg Int32.toInt (w1 (x + 1) 9 (dW_77 x y hxy))) (fun k => w1 _ k ((dW_78 x y hxy) k)), zz_Tm.eq (a := y + 1) (b := y + 1) (w2 (y + 1) 5 (dW_79 x y hxy)) hJ1.1.2.2.2.2.1.2 (fun k hk => w2 (y + 1) (73 + k) ((dW_80 x y hxy) k hk)), bP, hqP]
  have rX : zz_tts (zz_XT σ2 (x + 1)) (zz_MT σ2 (y + 1)) := by rw [aX, zz_XT.all (r := x + 1) (fun a ha k => w1 a k ((dW_81 x y hxy) a ha k)), zz_MT.hi (a := y + 1) (b := y + 1) (fun k hk => w2 (y + 1) k ((dW_82 x y hxy) k hk)), bX]; exact hqX
  have rF : zz_PX 1 σ2 (x + 1) = zz_PM 1 σ2 (y + 1) := by rw [aF, zz_PXk (f := 1) (r := x + 1) w1 (dW_67 x y hxy), zz_PMk (f := 1) (a := y + 1) w2 (dW_68 x y hxy), bF, hqF]
  have rV : zy_wv σ2 (x + 1 + 5) 0 (σ2 (x + 1) 11).toInt = zy_wv σ2 (y + 1) 133 (σ2 (y + 1) 6).toInt := by rw [aV, zy_wv.eq (a := x + 1 + 5) (a1 := x + 1 + 5) (b := 0) (b1 := 0) (congrArg Int32.toInt (w1 (x + 1) 11 (dW_77 x y hxy))) (fun k hk => w1 (x + 1 + 5) (0 + k) ((dW_83 x y hxy) k hk)), zy_wv.eq (a := y + 1) (a1 := y + 1) (b := 133) (b1 := 133) (congrArg Int32.toInt (w2 (y + 1) 6 (dW_79 x y hxy))) (fun k hk => w2 (y + 1) (133 + k) ((dW_84 x y hxy) k hk)), bV, hqV]
  have rG : zy_FB (zz_PM 1 σ2 (y + 1)) := by rw [zz_PMk (f := 1) (a := y + 1) w2 (dW_68 x y hxy), bF]; exact hqG
  have rK : (σ2 x 2).toInt = 0 ∨ (zz_DX σ2 (x + 28) = zz_DM σ2 (y + 2) ∧ zz_PX 0 σ2 (x + 28) = zz_PM 0 σ2 (y + 2) ∧ zz_Tp σ2 (x + 28 + 4) (σ2 (x + 28) 9).toInt = zz_Tm σ2 (y + 2) ∧ zz_tts (zz_XT σ2 (x + 28)) (zz_MT σ2 (y + 2)) ∧ zz_PX 1 σ2 (x + 28) = zz_PM 1 σ2 (y + 2) ∧ zy_FB (zz_PM 1 σ2 (y + 2)) ∧ zy_wv σ2 (x + 28 + 5) 0 (σ2 (x + 28) 11).toInt = zy_wv σ2 (y + 2) 133 (σ2 (y + 2) 6).toInt) := hqK.elim (fun q => Or.inl ((congrArg Int32.toInt ((A x 2 (by omega) (by omega)).trans (w1 x 2 (dW_61 x y hxy)))).trans q)) (fun q => Or.inr ⟨by rw [aKD, zz_DXk (r := x + 28) w1 (dW_85 x y hxy), zz_DMk (a := y + 2) w2 (dW_86 x y hxy), bKD, q.1], by rw [aKW, zz_PXk (f := 0) (r := x + 28) w1 (dW_87 x y hxy), zz_PMk (f := 0) (a := y + 2) w2 (dW_88 x y hxy), bKW, q.2.1], by rw [aKP, zz_Tp.all (a := x + 28 + 4) (b := x + 28 + 4) (congrArg Int32.toInt (w1 (x + 28) 9 (dW_89 x y hxy))) (fun k => w1 _ k ((dW_90 x y hxy) k)), zz_Tm.eq (a := y + 2) (b := y + 2) (w2 (y + 2) 5 (dW_91 x y hxy)) hJ1.2.1.2.2.2.2.1.2 (fun k hk => w2 (y + 2) (73 + k) ((dW_92 x y hxy) k hk)), bKP, q.2.2.1], by rw [aKX, zz_XT.all (r := x + 28) (fun a ha k => w1 a k ((dW_93 x y hxy) a ha k)), zz_MT.hi (a := y + 2) (b := y + 2) (fun k hk => w2 (y + 2) k ((dW_94 x y hxy) k hk)), bKX]; exact q.2.2.2.1, by rw [aKF, zz_PXk (f := 1) (r := x + 28) w1 (dW_87 x y hxy), zz_PMk (f := 1) (a := y + 2) w2 (dW_88 x y hxy), bKF, q.2.2.2.2.1], by rw [zz_PMk (f := 1) (a := y + 2) w2 (dW_88 x y hxy), bKF]; exact q.2.2.2.2.2.1, by rw [aKV, zy_wv.eq (a := x + 28 + 5) (a1 := x + 28 + 5) (b := 0) (b1 := 0) (congrArg Int32.toInt (w1 (x + 28) 11 (dW_89 x y hxy))) (fun k hk => w1 (x + 28 + 5) (0 + k) ((dW_95 x y hxy) k hk)), zy_wv.eq (a := y + 2) (a1 := y + 2) (b := 133) (b1 := 133) (congrArg Int32.toInt (w2 (y + 2) 6 (dW_91 x y hxy))) (fun k hk => w2 (y + 2) (133 + k) ((dW_96 x y hxy) k hk)), bKV, q.2.2.2.2.2.2]⟩)
  have hQ2 : zz_RD σ2 x y := ⟨rD, rW, rK, rB, rN, rC, rL, rT, rP, rX, rF, rG, rV⟩
  refine lv_pop hx hb dL_law_1077 rfl ?_
  refine lv_goto (tgt := 1384) hx hb dL_law_1078 (by decide) ?_
  exact kk _ _ _ hRL hQ2 hP hS
theorem gL_law_X8_sheet : GoodIn wsL_law (wsV RL 128 RX8 yX8_sheet wzX8_sheet) := wz_coL bm_884 (wz_coL bm_885 (wz_coL bm_886 (wz_coL bm_2 (wz_inL bm_887))))
theorem gL_law_X9_sheet : GoodIn wsL_law (wsV RL 131 RX9 yX9_sheet wzX9_sheet) := wz_coL bm_894 (wz_coL bm_895 (wz_coL bm_896 (wz_coL bm_5 (wz_inL bm_897))))
theorem dW_642 (x y : Nat) (hxy : x + 76 ≤ y) : ∀ a k : Nat, y ≤ a → a ≤ y + 12 → ¬ ((a) = (x) + 24 ∨ (a) = (x) + 27 ∨ ((x) + 58 ≤ (a) ∧ (a) ≤ (x) + 67) ∨ ((x) + 68 ≤ (a) ∧ (a) < (x) + 76)) := by intros; omega
theorem dW_643 (x y : Nat) (hxy : x + 76 ≤ y) : ∀ a k : Nat, x ≤ a → a < x + 76 → ¬ (((a) = (y) + 3 ∨ ((y) + 7 ≤ (a) ∧ (a) ≤ (y) + 11)) ∨ (a) = (y) + 4 ∨ (a) = (y) + 5 ∨ (a) = (y) + 6) := by intros; omega
theorem dW_644 (x y : Nat) (hxy : x + 76 ≤ y) : ∀ k : Nat, k ≤ 6 → ¬ ((((y + 1)) = (y) + 3 ∨ ((y) + 7 ≤ ((y + 1)) ∧ ((y + 1)) ≤ (y) + 11)) ∨ ((y + 1)) = (y) + 4 ∨ ((y + 1)) = (y) + 5 ∨ ((y + 1)) = (y) + 6) := by intros; omega
theorem dW_645 (x y : Nat) (hxy : x + 76 ≤ y) : ∀ k : Nat, ¬ (((x + 28)) = (x) + 24 ∨ ((x + 28)) = (x) + 27 ∨ ((x) + 58 ≤ ((x + 28)) ∧ ((x + 28)) ≤ (x) + 67) ∨ ((x) + 68 ≤ ((x + 28)) ∧ ((x + 28)) < (x) + 76)) := by intros; omega
theorem dW_646 (x y : Nat) (hxy : x + 76 ≤ y) : ¬ ((x) = (x) + 24 ∨ (x) = (x) + 27 ∨ ((x) + 58 ≤ (x) ∧ (x) ≤ (x) + 67) ∨ ((x) + 68 ≤ (x) ∧ (x) < (x) + 76)) := by omega
theorem dW_647 (x y : Nat) (hxy : x + 76 ≤ y) : ∀ k : Nat, ¬ ((((y + 2)) = (y) + 3 ∨ ((y) + 7 ≤ ((y + 2)) ∧ ((y + 2)) ≤ (y) + 11)) ∨ ((y + 2)) = (y) + 4 ∨ ((y + 2)) = (y) + 5 ∨ ((y + 2)) = (y) + 6) := by intros; omega
theorem dW_648 (x y : Nat) (hxy : x + 76 ≤ y) : ¬ (((y) = (y) + 3 ∨ ((y) + 7 ≤ (y) ∧ (y) ≤ (y) + 11)) ∨ (y) = (y) + 4 ∨ (y) = (y) + 5 ∨ (y) = (y) + 6) := by omega
theorem dW_649 (x y : Nat) (hxy : x + 76 ≤ y) : ∀ k : Nat, ¬ (((x + 1)) = (x) + 24 ∨ ((x + 1)) = (x) + 27 ∨ ((x) + 58 ≤ ((x + 1)) ∧ ((x + 1)) ≤ (x) + 67) ∨ ((x) + 68 ≤ ((x + 1)) ∧ ((x + 1)) < (x) + 76)) := by intros; omega
theorem dW_650 (x y : Nat) (hxy : x + 76 ≤ y) : ∀ j : Nat, j < 9 → ∀ k : Nat, k < 6 → ¬ (((x + 1 + 6 + 1 * j)) = (x) + 24 ∨ ((x + 1 + 6 + 1 * j)) = (x) + 27 ∨ ((x) + 58 ≤ ((x + 1 + 6 + 1 * j)) ∧ ((x + 1 + 6 + 1 * j)) ≤ (x) + 67) ∨ ((x) + 68 ≤ ((x + 1 + 6 + 1 * j)) ∧ ((x + 1 + 6 + 1 * j)) < (x) + 76)) := by intros; omega
theorem dW_651 (x y : Nat) (hxy : x + 76 ≤ y) : ∀ k : Nat, 7 ≤ k → k < 61 → ¬ ((((y + 1)) = (y) + 3 ∨ ((y) + 7 ≤ ((y + 1)) ∧ ((y + 1)) ≤ (y) + 11)) ∨ ((y + 1)) = (y) + 4 ∨ ((y + 1)) = (y) + 5 ∨ ((y + 1)) = (y) + 6) := by intros; omega
theorem dW_652 (x y : Nat) (hxy : x + 76 ≤ y) : ∀ j : Nat, j < 6 → ¬ (((x + 1 + 15 + 1 * j)) = (x) + 24 ∨ ((x + 1 + 15 + 1 * j)) = (x) + 27 ∨ ((x) + 58 ≤ ((x + 1 + 15 + 1 * j)) ∧ ((x + 1 + 15 + 1 * j)) ≤ (x) + 67) ∨ ((x) + 68 ≤ ((x + 1 + 15 + 1 * j)) ∧ ((x + 1 + 15 + 1 * j)) < (x) + 76)) := by intros; omega
theorem dW_653 (x y : Nat) (hxy : x + 76 ≤ y) : ∀ j : Nat, j < 6 → ¬ ((((y + 1)) = (y) + 3 ∨ ((y) + 7 ≤ ((y + 1)) ∧ ((y + 1)) ≤ (y) + 11)) ∨ ((y + 1)) = (y) + 4 ∨ ((y + 1)) = (y) + 5 ∨ ((y + 1)) = (y) + 6) := by intros; omega
theorem dW_654 (x y : Nat) (hxy : x + 76 ≤ y) : ¬ (((x + 56)) = (x) + 24 ∨ ((x + 56)) = (x) + 27 ∨ ((x) + 58 ≤ ((x + 56)) ∧ ((x + 56)) ≤ (x) + 67) ∨ ((x) + 68 ≤ ((x + 56)) ∧ ((x + 56)) < (x) + 76)) := by omega
theorem dW_655 (x y : Nat) (hxy : x + 76 ≤ y) : ∀ k : Nat, ¬ (((x + 56 + 1)) = (x) + 24 ∨ ((x + 56 + 1)) = (x) + 27 ∨ ((x) + 58 ≤ ((x + 56 + 1)) ∧ ((x + 56 + 1)) ≤ (x) + 67) ∨ ((x) + 68 ≤ ((x + 56 + 1)) ∧ ((x + 56 + 1)) < (x) + 76)) := by intros; omega
theorem dW_656 (x y : Nat) (hxy : x + 76 ≤ y) : ∀ k : Nat, ¬ ((((y + 12)) = (y) + 3 ∨ ((y) + 7 ≤ ((y + 12)) ∧ ((y + 12)) ≤ (y) + 11)) ∨ ((y + 12)) = (y) + 4 ∨ ((y + 12)) = (y) + 5 ∨ ((y + 12)) = (y) + 6) := by intros; omega
theorem dW_657 (x y : Nat) (hxy : x + 76 ≤ y) : ¬ (((x + 1)) = (x) + 24 ∨ ((x + 1)) = (x) + 27 ∨ ((x) + 58 ≤ ((x + 1)) ∧ ((x + 1)) ≤ (x) + 67) ∨ ((x) + 68 ≤ ((x + 1)) ∧ ((x + 1)) < (x) + 76)) := by omega
theorem dW_658 (x y : Nat) (hxy : x + 76 ≤ y) : ∀ k : Nat, ¬ (((x + 1 + 4)) = (x) + 24 ∨ ((x + 1 + 4)) = (x) + 27 ∨ ((x) + 58 ≤ ((x + 1 + 4)) ∧ ((x + 1 + 4)) ≤ (x) + 67) ∨ ((x) + 68 ≤ ((x + 1 + 4)) ∧ ((x + 1 + 4)) < (x) + 76)) := by intros; omega
theorem dW_659 (x y : Nat) (hxy : x + 76 ≤ y) : ¬ ((((y + 1)) = (y) + 3 ∨ ((y) + 7 ≤ ((y + 1)) ∧ ((y + 1)) ≤ (y) + 11)) ∨ ((y + 1)) = (y) + 4 ∨ ((y + 1)) = (y) + 5 ∨ ((y + 1)) = (y) + 6) := by omega
theorem dW_660 (x y : Nat) (hxy : x + 76 ≤ y) : ∀ k : Nat, k < 60 → ¬ ((((y + 1)) = (y) + 3 ∨ ((y) + 7 ≤ ((y + 1)) ∧ ((y + 1)) ≤ (y) + 11)) ∨ ((y + 1)) = (y) + 4 ∨ ((y + 1)) = (y) + 5 ∨ ((y + 1)) = (y) + 6) := by intros; omega
theorem dW_661 (x y : Nat) (hxy : x + 76 ≤ y) : ∀ a : Nat, (a = x + 1 + 21 ∨ a = x + 1 + 22 ∨ a = x + 1 + 24 ∨ a = x + 1 + 25) → ∀ k : Nat, ¬ ((a) = (x) + 24 ∨ (a) = (x) + 27 ∨ ((x) + 58 ≤ (a) ∧ (a) ≤ (x) + 67) ∨ ((x) + 68 ≤ (a) ∧ (a) < (x) + 76)) := by intros; omega
theorem dW_662 (x y : Nat) (hxy : x + 76 ≤ y) : ∀ k : Nat, 157 ≤ k → ¬ ((((y + 1)) = (y) + 3 ∨ ((y) + 7 ≤ ((y + 1)) ∧ ((y + 1)) ≤ (y) + 11)) ∨ ((y + 1)) = (y) + 4 ∨ ((y + 1)) = (y) + 5 ∨ ((y + 1)) = (y) + 6) := by intros; omega
theorem dW_663 (x y : Nat) (hxy : x + 76 ≤ y) : ∀ k : Nat, k < 24 → ¬ (((x + 1 + 5)) = (x) + 24 ∨ ((x + 1 + 5)) = (x) + 27 ∨ ((x) + 58 ≤ ((x + 1 + 5)) ∧ ((x + 1 + 5)) ≤ (x) + 67) ∨ ((x) + 68 ≤ ((x + 1 + 5)) ∧ ((x + 1 + 5)) < (x) + 76)) := by intros; omega
theorem dW_664 (x y : Nat) (hxy : x + 76 ≤ y) : ∀ k : Nat, k < 24 → ¬ ((((y + 1)) = (y) + 3 ∨ ((y) + 7 ≤ ((y + 1)) ∧ ((y + 1)) ≤ (y) + 11)) ∨ ((y + 1)) = (y) + 4 ∨ ((y + 1)) = (y) + 5 ∨ ((y + 1)) = (y) + 6) := by intros; omega
theorem dW_665 (x y : Nat) (hxy : x + 76 ≤ y) : ∀ j : Nat, j < 9 → ∀ k : Nat, k < 6 → ¬ (((x + 28 + 6 + 1 * j)) = (x) + 24 ∨ ((x + 28 + 6 + 1 * j)) = (x) + 27 ∨ ((x) + 58 ≤ ((x + 28 + 6 + 1 * j)) ∧ ((x + 28 + 6 + 1 * j)) ≤ (x) + 67) ∨ ((x) + 68 ≤ ((x + 28 + 6 + 1 * j)) ∧ ((x + 28 + 6 + 1 * j)) < (x) + 76)) := by intros; omega
theorem dW_666 (x y : Nat) (hxy : x + 76 ≤ y) : ∀ k : Nat, 7 ≤ k → k < 61 → ¬ ((((y + 2)) = (y) + 3 ∨ ((y) + 7 ≤ ((y + 2)) ∧ ((y + 2)) ≤ (y) + 11)) ∨ ((y + 2)) = (y) + 4 ∨ ((y + 2)) = (y) + 5 ∨ ((y + 2)) = (y) + 6) := by intros; omega
theorem dW_667 (x y : Nat) (hxy : x + 76 ≤ y) : ∀ j : Nat, j < 6 → ¬ (((x + 28 + 15 + 1 * j)) = (x) + 24 ∨ ((x + 28 + 15 + 1 * j)) = (x) + 27 ∨ ((x) + 58 ≤ ((x + 28 + 15 + 1 * j)) ∧ ((x + 28 + 15 + 1 * j)) ≤ (x) + 67) ∨ ((x) + 68 ≤ ((x + 28 + 15 + 1 * j)) ∧ ((x + 28 + 15 + 1 * j)) < (x) + 76)) := by intros; omega
theorem dW_668 (x y : Nat) (hxy : x + 76 ≤ y) : ∀ j : Nat, j < 6 → ¬ ((((y + 2)) = (y) + 3 ∨ ((y) + 7 ≤ ((y + 2)) ∧ ((y + 2)) ≤ (y) + 11)) ∨ ((y + 2)) = (y) + 4 ∨ ((y + 2)) = (y) + 5 ∨ ((y + 2)) = (y) + 6) := by intros; omega
theorem dW_669 (x y : Nat) (hxy : x + 76 ≤ y) : ¬ (((x + 28)) = (x) + 24 ∨ ((x + 28)) = (x) + 27 ∨ ((x) + 58 ≤ ((x + 28)) ∧ ((x + 28)) ≤ (x) + 67) ∨ ((x) + 68 ≤ ((x + 28)) ∧ ((x + 28)) < (x) + 76)) := by omega
theorem dW_670 (x y : Nat) (hxy : x + 76 ≤ y) : ∀ k : Nat, ¬ (((x + 28 + 4)) = (x) + 24 ∨ ((x + 28 + 4)) = (x) + 27 ∨ ((x) + 58 ≤ ((x + 28 + 4)) ∧ ((x + 28 + 4)) ≤ (x) + 67) ∨ ((x) + 68 ≤ ((x + 28 + 4)) ∧ ((x + 28 + 4)) < (x) + 76)) := by intros; omega
theorem dW_671 (x y : Nat) (hxy : x + 76 ≤ y) : ¬ ((((y + 2)) = (y) + 3 ∨ ((y) + 7 ≤ ((y + 2)) ∧ ((y + 2)) ≤ (y) + 11)) ∨ ((y + 2)) = (y) + 4 ∨ ((y + 2)) = (y) + 5 ∨ ((y + 2)) = (y) + 6) := by omega
theorem dW_672 (x y : Nat) (hxy : x + 76 ≤ y) : ∀ k : Nat, k < 60 → ¬ ((((y + 2)) = (y) + 3 ∨ ((y) + 7 ≤ ((y + 2)) ∧ ((y + 2)) ≤ (y) + 11)) ∨ ((y + 2)) = (y) + 4 ∨ ((y + 2)) = (y) + 5 ∨ ((y + 2)) = (y) + 6) := by intros; omega
theorem dW_673 (x y : Nat) (hxy : x + 76 ≤ y) : ∀ a : Nat, (a = x + 28 + 21 ∨ a = x + 28 + 22 ∨ a = x + 28 + 24 ∨ a = x + 28 + 25) → ∀ k : Nat, ¬ ((a) = (x) + 24 ∨ (a) = (x) + 27 ∨ ((x) + 58 ≤ (a) ∧ (a) ≤ (x) + 67) ∨ ((x) + 68 ≤ (a) ∧ (a) < (x) + 76)) := by intros; omega
theorem dW_674 (x y : Nat) (hxy : x + 76 ≤ y) : ∀ k : Nat, 157 ≤ k → ¬ ((((y + 2)) = (y) + 3 ∨ ((y) + 7 ≤ ((y + 2)) ∧ ((y + 2)) ≤ (y) + 11)) ∨ ((y + 2)) = (y) + 4 ∨ ((y + 2)) = (y) + 5 ∨ ((y + 2)) = (y) + 6) := by intros; omega
theorem dW_675 (x y : Nat) (hxy : x + 76 ≤ y) : ∀ k : Nat, k < 24 → ¬ (((x + 28 + 5)) = (x) + 24 ∨ ((x + 28 + 5)) = (x) + 27 ∨ ((x) + 58 ≤ ((x + 28 + 5)) ∧ ((x + 28 + 5)) ≤ (x) + 67) ∨ ((x) + 68 ≤ ((x + 28 + 5)) ∧ ((x + 28 + 5)) < (x) + 76)) := by intros; omega
theorem dW_676 (x y : Nat) (hxy : x + 76 ≤ y) : ∀ k : Nat, k < 24 → ¬ ((((y + 2)) = (y) + 3 ∨ ((y) + 7 ≤ ((y + 2)) ∧ ((y + 2)) ≤ (y) + 11)) ∨ ((y + 2)) = (y) + 4 ∨ ((y + 2)) = (y) + 5 ∨ ((y + 2)) = (y) + 6) := by intros; omega
set_option maxHeartbeats 4000000 in
set_option maxRecDepth 100000 in
theorem lc_sheet {p : Program} {l : Launch} {e : Env} {s : State} {m : MethodId} {below : List Frame} {meth : Method} {c : Code} {b L x y : Nat} {xs : Nat → Int32} {E : zz_E} {Q : State → Prop} (hA : zz_LA p s m c b L xs E x y) (i : Int32) (hi : 0 ≤ i.toInt ∧ i.toInt + 6 ≤ L) (σ : zz_S) (H : Heap) (locs : List Loc) (ls : Array Slot) (hR : zz_RL σ x y) (hQ : zz_RD σ x y) (hP : zz_P E σ H) (hS : va_S (zz_A E) s.heap H locs) (hl : lv_has ls 4 [(0, .ref b), (1, .ref x), (2, .ref y), (3, .int i)])
    (kk : ∀ (σ1 : zz_S) (H1 : Heap) (locs1 : List Loc), zz_RL σ1 x y → zz_RD σ1 x y → zz_P E σ1 H1 → va_S (zz_A E) s.heap H1 locs1 → W p l e room_1 s m #[Value.ref b] below meth c H1 locs1 600000 7302250 Q (F0 m 1384 ls [])) : W p l e room_1 s m #[Value.ref b] below meth c H locs 600000 7302250 Q (F0 m 1081 ls []) := by
  obtain ⟨hx, hb, hml, hown, hts, hX, hbl, hbE, hL, gL, gM, hxy, hK⟩ := hA
  have hbA : ¬ zz_A E b := fun h => absurd (hbE b h) (Nat.not_le.mpr hbl)
  have k_1 : (1 : Int32).toInt = 1 := by decide +kernel
  have k_2 : (2 : Int32).toInt = 2 := by decide +kernel
  have k_3 : (3 : Int32).toInt = 3 := by decide +kernel
  refine lv_aload_n hx hb dL_law_1081 rfl (lv_at hl 1 rfl) ?_
  refine lv_aload_n hx hb dL_law_1082 rfl (lv_at hl 0 rfl) ?_
  refine lv_iload_n hx hb dL_law_1083 rfl (lv_at hl 3 rfl) ?_
  refine lv_iconst (v := 1) hx hb dL_law_1084 (by decide) ?_
  refine lv_iadd hx hb dL_law_1085 ?_
  refine lv_topi (fun n1 e1 => ?_)
  have f1 : n1.toInt = (i).toInt + (1 : Int32).toInt := zz_addT e1 (by omega) (by omega)
  refine va_sld hx hb hX hbl hbA hS (vp_in_iff.mpr ⟨by omega, by omega⟩) dL_law_1086 ?_
  refine lv_topi (fun v2 u2 => ?_)
  refine lv_aload_n hx hb dL_law_1087 rfl (lv_at hl 0 rfl) ?_
  refine lv_iload_n hx hb dL_law_1088 rfl (lv_at hl 3 rfl) ?_
  refine lv_iconst (v := 2) hx hb dL_law_1089 (by decide) ?_
  refine lv_iadd hx hb dL_law_1090 ?_
  refine lv_topi (fun n3 e3 => ?_)
  have f3 : n3.toInt = (i).toInt + (2 : Int32).toInt := zz_addT e3 (by omega) (by omega)
  refine va_sld hx hb hX hbl hbA hS (vp_in_iff.mpr ⟨by omega, by omega⟩) dL_law_1091 ?_
  refine lv_topi (fun v4 u4 => ?_)
  refine lv_aload_n hx hb dL_law_1092 rfl (lv_at hl 0 rfl) ?_
  refine lv_iload_n hx hb dL_law_1093 rfl (lv_at hl 3 rfl) ?_
  refine lv_iconst (v := 3) hx hb dL_law_1094 (by decide) ?_
  refine lv_iadd hx hb dL_law_1095 ?_
  refine lv_topi (fun n5 e5 => ?_)
  have f5 : n5.toInt = (i).toInt + (3 : Int32).toInt := zz_addT e5 (by omega) (by omega)
  refine va_sld hx hb hX hbl hbA hS (vp_in_iff.mpr ⟨by omega, by omega⟩) dL_law_1096 ?_
  refine lv_topi (fun v6 u6 => ?_)
  refine zz_callVi (As := [.int v2, .int v4, .int v6]) (rest := []) ⟨hx, hb, hml, hown, hts⟩ hK hP hS (c_X8_sheet l E σ x v2 v4 v6 gL hR.1) (cwV 3 hts gL_law_X8_sheet rfl rfl rfl (by decide +kernel) ⟨Nat.le_of_ble_eq_true rfl, Nat.le_of_ble_eq_true rfl⟩) (gL.1) rfl rfl hl.1 rfl (Nat.le_of_ble_eq_true rfl) dL_law_1097 ⟨Nat.le_refl _, Nat.le_refl _⟩ (fun r1 σ1 H locs q1 hP hS => ?_)
  try dsimp only at q1
  obtain ⟨w1, p1⟩ := q1
  have B : ∀ a k : Nat, y ≤ a → a ≤ y + 12 → σ1 a k = σ a k := fun a k h1 h2 => w1 a k ((dW_642 x y hxy) a k h1 h2)
  have hJ1 : zz_IM σ1 y := hR.2.1.far B
  refine lv_pop hx hb dL_law_1100 rfl ?_
  refine lv_aload_n hx hb dL_law_1101 rfl (lv_at hl 2 rfl) ?_
  refine lv_aload_n hx hb dL_law_1102 rfl (lv_at hl 0 rfl) ?_
  refine lv_iload_n hx hb dL_law_1103 rfl (lv_at hl 3 rfl) ?_
  refine lv_iconst (v := 1) hx hb dL_law_1104 (by decide) ?_
  refine lv_iadd hx hb dL_law_1105 ?_
  refine lv_topi (fun n8 e8 => ?_)
  have f8 : n8.toInt = (i).toInt + (1 : Int32).toInt := zz_addT e8 (by omega) (by omega)
  refine va_sld hx hb hX hbl hbA hS (vp_in_iff.mpr ⟨by omega, by omega⟩) dL_law_1106 ?_
  refine lv_topi (fun v9 u9 => ?_)
  have z9 : v9 = v2 := by rw [u9, u2, e8, e1]
  have zt9 := congrArg Int32.toInt z9
  refine lv_aload_n hx hb dL_law_1107 rfl (lv_at hl 0 rfl) ?_
  refine lv_iload_n hx hb dL_law_1108 rfl (lv_at hl 3 rfl) ?_
  refine lv_iconst (v := 2) hx hb dL_law_1109 (by decide) ?_
  refine lv_iadd hx hb dL_law_1110 ?_
  refine lv_topi (fun n10 e10 => ?_)
  have f10 : n10.toInt = (i).toInt + (2 : Int32).toInt := zz_addT e10 (by omega) (by omega)
  refine va_sld hx hb hX hbl hbA hS (vp_in_iff.mpr ⟨by omega, by omega⟩) dL_law_1111 ?_
  refine lv_topi (fun v11 u11 => ?_)
  have z11 : v11 = v4 := by rw [u11, u4, e10, e3]
  have zt11 := congrArg Int32.toInt z11
  refine lv_aload_n hx hb dL_law_1112 rfl (lv_at hl 0 rfl) ?_
  refine lv_iload_n hx hb dL_law_1113 rfl (lv_at hl 3 rfl) ?_
  refine lv_iconst (v := 3) hx hb dL_law_1114 (by decide) ?_
  refine lv_iadd hx hb dL_law_1115 ?_
  refine lv_topi (fun n12 e12 => ?_)
  have f12 : n12.toInt = (i).toInt + (3 : Int32).toInt := zz_addT e12 (by omega) (by omega)
  refine va_sld hx hb hX hbl hbA hS (vp_in_iff.mpr ⟨by omega, by omega⟩) dL_law_1116 ?_
  refine lv_topi (fun v13 u13 => ?_)
  have z13 : v13 = v6 := by rw [u13, u6, e12, e5]
  have zt13 := congrArg Int32.toInt z13
  refine zz_callVi (As := [.int v9, .int v11, .int v13]) (rest := []) ⟨hx, hb, hml, hown, hts⟩ hK hP hS (c_X9_sheet l E σ1 y v9 v11 v13 gM hJ1) (cwV 3 hts gL_law_X9_sheet rfl rfl rfl (by decide +kernel) ⟨Nat.le_of_ble_eq_true rfl, Nat.le_of_ble_eq_true rfl⟩) (gM.1) rfl rfl hl.1 rfl (Nat.le_of_ble_eq_true rfl) dL_law_1117 ⟨Nat.le_refl _, Nat.le_refl _⟩ (fun r2 σ2 H locs q2 hP hS => ?_)
  try dsimp only at q2
  obtain ⟨w2, p2⟩ := q2
  have A : ∀ a k : Nat, x ≤ a → a < x + 76 → σ2 a k = σ1 a k := fun a k h1 h2 => w2 a k ((dW_643 x y hxy) a k h1 h2)
  obtain ⟨i1, p1⟩ := p1
  obtain ⟨i2, p2⟩ := p2
  try simp only [z9, z11, z13] at p2
  have hRL : zz_RL σ2 x y := hR.soft i1 i2 A B (fun k => w1 (x + 1) k ((dW_649 x y hxy) k)) (fun k hk => w2 (y + 1) k ((dW_644 x y hxy) k hk)) (fun k => w1 (x + 28) k ((dW_645 x y hxy) k)) (w1 x 2 (dW_646 x y hxy)) (fun k => w2 (y + 2) k ((dW_647 x y hxy) k)) (w2 y 2 (dW_648 x y hxy))
  obtain ⟨hqD, hqW, hqK, hqB, hqN, hqC, hqL, hqT, hqP, hqX, hqF, hqG, hqV⟩ := hQ
  obtain ⟨aD, aW, aKD, aKW, aB, aN, aC, aL, aT, aP, aX, aKP, aKX⟩ := zz_aX A
  obtain ⟨bD, bW, bKD, bKW, bB, bN, bC, bL, bT, bP, bX, bKP, bKX⟩ := zz_bM hR.2.1 B
  obtain ⟨aF, aKF, aV, aKV⟩ := zy_aX2 A
  obtain ⟨bF, bKF, bV, bKV⟩ := zy_bM2 B
  have rD : zz_DX σ2 (x + 1) = zz_DM σ2 (y + 1) := by rw [aD, zz_DXk (r := x + 1) w1 (dW_650 x y hxy), zz_DMk (a := y + 1) w2 (dW_651 x y hxy), bD, hqD]
  have rW : zz_PX 0 σ2 (x + 1) = zz_PM 0 σ2 (y + 1) := by rw [aW, zz_PXk (f := 0) (r := x + 1) w1 (dW_652 x y hxy), zz_PMk (f := 0) (a := y + 1) w2 (dW_653 x y hxy), bW, hqW]
  have rL : (σ2 (x + 56) 1).toInt = (σ2 y 18).toInt := by rw [aL, congrArg Int32.toInt (w1 (x + 56) 1 (dW_654 x y hxy)), congrArg Int32.toInt (w2 y 18 (dW_648 x y hxy)), bL, hqL]
  have rT : zz_TV σ2 (x + 56 + 1) = zz_TV σ2 (y + 12) := by rw [aT, zz_TV.eq (a := x + 56 + 1) (b := x + 56 + 1) (fun k _ => w1 _ k ((dW_655 x y hxy) k)), zz_TV.eq (a := y + 12) (b := y + 12) (fun k _ => w2 _ k ((dW_656 x y hxy) k)), bT, hqT]
  have rP : zz_Tp σ2 (x + 1 + 4) (σ2 (x + 1) 9).toInt = zz_Tm σ2 (y + 1) := by rw [aP, zz_Tp.all (a := x + 1 + 4) (b := x + 1 + 4) (congrArg Int32.toInt (w1 (x + 1) 9 (dW_657 x y hxy))) (fun k => w1 _ k ((dW_658 x y hxy) k)), zz_Tm.eq (a := y + 1) (b := y + 1) (w2 (y + 1) 5 (dW_659 x y hxy)) hJ1.1.2.2.2.2.1.2 (fun k hk => w2 (y + 1) (73 + k) ((dW_660 x y hxy) k hk)), bP, hqP]
  have rX : zz_tts (zz_XT σ2 (x + 1)) (zz_MT σ2 (y + 1)) := by rw [aX, zz_XT.all (r := x + 1) (fun a ha k => w1 a k ((dW_661 x y hxy) a ha k)), zz_MT.hi (a := y + 1) (b := y + 1) (fun k hk => w2 (y + 1) k ((dW_662 x y hxy) k hk)), bX]; exact hqX
  have rF : zz_PX 1 σ2 (x + 1) = zz_PM 1 σ2 (y + 1) := by rw [aF, zz_PXk (f := 1) (r := x + 1) w1 (dW_652 x y hxy), zz_PMk (f := 1) (a := y + 1) w2 (dW_653 x y hxy), bF, hqF]
  have rV : zy_wv σ2 (x + 1 + 5) 0 (σ2 (x + 1) 11).toInt = zy_wv σ2 (y + 1) 133 (σ2 (y + 1) 6).toInt := by rw [aV, zy_wv.eq (a := x + 1 + 5) (a1 := x + 1 + 5) (b := 0) (b1 := 0) (congrArg Int32.toInt (w1 (x + 1) 11 (dW_657 x y hxy))) (fun k hk => w1 (x + 1 + 5) (0 + k) ((dW_663 x y hxy) k hk)), zy_wv.eq (a := y + 1) (a1 := y + 1) (b := 133) (b1 := 133) (congrArg Int32.toInt (w2 (y + 1) 6 (dW_659 x y hxy))) (fun k hk => w2 (y + 1) (133 + k) ((dW_664 x y hxy) k hk)), bV, hqV]
  have rG : zy_FB (zz_PM 1 σ2 (y + 1)) := by rw [zz_PMk (f := 1) (a := y + 1) w2 (dW_653 x y hxy), bF]; exact hqG
  have rK : (σ2 x 2).toInt = 0 ∨ (zz_DX σ2 (x + 28) = zz_DM σ2 (y + 2) ∧ zz_PX 0 σ2 (x + 28) = zz_PM 0 σ2 (y + 2) ∧ zz_Tp σ2 (x + 28 + 4) (σ2 (x + 28) 9).toInt = zz_Tm σ2 (y + 2) ∧ zz_tts (zz_XT σ2 (x + 28)) (zz_MT σ2 (y + 2)) ∧ zz_PX 1 σ2 (x + 28) = zz_PM 1 σ2 (y + 2) ∧ zy_FB (zz_PM 1 σ2 (y + 2)) ∧ zy_wv σ2 (x + 28 + 5) 0 (σ2 (x + 28) 11).toInt = zy_wv σ2 (y + 2) 133 (σ2 (y + 2) 6).toInt) := hqK.elim (fun q => Or.inl ((congrArg Int32.toInt ((A x 2 (by omega) (by omega)).trans (w1 x 2 (dW_646 x y hxy)))).trans q)) (fun q => Or.inr ⟨by rw [aKD, zz_DXk (r := x + 28) w1 (dW_665 x y hxy), zz_DMk (a := y + 2) w2 (dW_666 x y hxy), bKD, q.1], by rw [aKW, zz_PXk (f := 0) (r := x + 28) w1 (dW_667 x y hxy), zz_PMk (f := 0) (a := y + 2) w2 (dW_668 x y hxy), bKW, q.2.1], by rw [aKP, zz_Tp.all (a := x + 28 + 4) (b := x + 28 + 4) (congrArg Int32.toInt (w1 (x + 28) 9 (dW_669 x y hxy))) (fun k => w1 _ k ((dW_670 x y hxy) k)), zz_Tm.eq (a := y + 2) (b := y + 2) (w2 (y + 2) 5 (dW_671 x y hxy)) hJ1.2.1.2.2.2.2.1.2 (fun k hk => w2 (y + 2) (73 + k) ((dW_672 x y hxy) k hk)), bKP, q.2.2.1], by rw [aKX, zz_XT.all (r := x + 28) (fun a ha k => w1 a k ((dW_673 x y hxy) a ha k)), zz_MT.hi (a := y + 2) (b := y + 2) (fun k hk => w2 (y + 2) k ((dW_674 x y hxy) k hk)), bKX]; exact q.2.2.2.1, by rw [aKF, zz_PXk (f := 1) (r := x + 28) w1 (dW_667 x y hxy), zz_PMk (f := 1) (a := y + 2) w2 (dW_668 x y hxy), bKF, q.2.2.2.2.1], by rw [zz_PMk (f := 1) (a := y + 2) w2 (dW_668 x y hxy), bKF]; exact q.2.2.2.2.2.1, by rw [aKV, zy_wv.eq (a := x + 28 + 5) (a1 := x + 28 + 5) (b := 0) (b1 := 0) (congrArg Int32.toInt (w1 (x + 28) 11 (dW_669 x y hxy))) (fun k hk => w1 (x + 28 + 5) (0 + k) ((dW_675 x y hxy) k hk)), zy_wv.eq (a := y + 2) (a1 := y + 2) (b := 133) (b1 := 133) (congrArg Int32.toInt (w2 (y + 2) 6 (dW_671 x y hxy))) (fun k hk => w2 (y + 2) (133 + k) ((dW_676 x y hxy) k hk)), bKV, q.2.2.2.2.2.2]⟩)
  have hrr0 : r1.toInt = r2.toInt := by have q1 := p1.1; have q2 := p2.1; unfold zz_sheet at q1 q2; omega
  have rS : zz_HX 0 σ2 x = zz_HM σ2 (y + 4) ∧ zz_HX 1 σ2 x = zz_HM σ2 (y + 5) ∧ zz_CX σ2 x = zz_CM σ2 (y + 6) := by
    by_cases q : r1.toInt < 0
    · have g1 := p1.2.1 q; have g2 := p2.2.1 (by omega); exact ⟨by rw [aB, g1.1, g2.1, bB, hqB], by rw [aN, g1.2.1, g2.2.1, bN, hqN], by rw [aC, g1.2.2, g2.2.2, bC, hqC]⟩
    · have g1 := p1.2.2 (by omega); have g2 := p2.2.2 (by omega); exact ⟨by rw [aB, g1.1, g2.1, bB, hqB], by rw [aN, g1.2.1, g2.2.1, bN, hqN], by rw [aC, g1.2.2, g2.2.2, bC, hqC]⟩
  obtain ⟨rB, rN, rC⟩ := rS
  have hQ2 : zz_RD σ2 x y := ⟨rD, rW, rK, rB, rN, rC, rL, rT, rP, rX, rF, rG, rV⟩
  refine lv_pop hx hb dL_law_1120 rfl ?_
  refine lv_goto (tgt := 1384) hx hb dL_law_1121 (by decide) ?_
  exact kk _ _ _ hRL hQ2 hP hS
theorem gL_law_X8_put : GoodIn wsL_law (wsV RL 132 RX8 yX8_put wzX8_put) := wz_coL bm_898 (wz_coL bm_899 (wz_coL bm_900 (wz_coL bm_2 (wz_inL bm_901))))
theorem gL_law_X9_put : GoodIn wsL_law (wsV RL 135 RX9 yX9_put wzX9_put) := wz_coL bm_906 (wz_coL bm_907 (wz_coL bm_908 (wz_coL bm_5 (wz_inL bm_909))))
theorem dW_677 (x y : Nat) (hxy : x + 76 ≤ y) : ∀ a k : Nat, y ≤ a → a ≤ y + 12 → ¬ ((a) = (x) + 24 ∨ (a) = (x) + 27 ∨ ((x) + 58 ≤ (a) ∧ (a) ≤ (x) + 67) ∨ (a) = (x) + 69 ∨ (a) = (x) + 71 ∨ (a) = (x) + 73 ∨ (a) = (x) + 75) := by intros; omega
theorem dW_678 (x y : Nat) (hxy : x + 76 ≤ y) : ∀ a k : Nat, x ≤ a → a < x + 76 → ¬ (((a) = (y) + 3 ∨ ((y) + 7 ≤ (a) ∧ (a) ≤ (y) + 11)) ∨ (a) = (y) + 6) := by intros; omega
theorem dW_679 (x y : Nat) (hxy : x + 76 ≤ y) : ∀ a k : Nat, (((a) = (y) + 3 ∨ ((y) + 7 ≤ (a) ∧ (a) ≤ (y) + 11)) ∨ (a) = (y) + 6) → ((a = (y) + 3 ∨ ((y) + 6 ≤ a ∧ a ≤ (y) + 12))) := by intros; omega
theorem dW_680 (x y : Nat) (hxy : x + 76 ≤ y) : ∀ k : Nat, k ≤ 6 → ¬ ((((y + 1)) = (y) + 3 ∨ ((y) + 7 ≤ ((y + 1)) ∧ ((y + 1)) ≤ (y) + 11)) ∨ ((y + 1)) = (y) + 6) := by intros; omega
theorem dW_681 (x y : Nat) (hxy : x + 76 ≤ y) : ∀ k : Nat, ¬ (((x + 28)) = (x) + 24 ∨ ((x + 28)) = (x) + 27 ∨ ((x) + 58 ≤ ((x + 28)) ∧ ((x + 28)) ≤ (x) + 67) ∨ ((x + 28)) = (x) + 69 ∨ ((x + 28)) = (x) + 71 ∨ ((x + 28)) = (x) + 73 ∨ ((x + 28)) = (x) + 75) := by intros; omega
theorem dW_682 (x y : Nat) (hxy : x + 76 ≤ y) : ¬ ((x) = (x) + 24 ∨ (x) = (x) + 27 ∨ ((x) + 58 ≤ (x) ∧ (x) ≤ (x) + 67) ∨ (x) = (x) + 69 ∨ (x) = (x) + 71 ∨ (x) = (x) + 73 ∨ (x) = (x) + 75) := by omega
theorem dW_683 (x y : Nat) (hxy : x + 76 ≤ y) : ∀ k : Nat, ¬ ((((y + 2)) = (y) + 3 ∨ ((y) + 7 ≤ ((y + 2)) ∧ ((y + 2)) ≤ (y) + 11)) ∨ ((y + 2)) = (y) + 6) := by intros; omega
theorem dW_684 (x y : Nat) (hxy : x + 76 ≤ y) : ¬ (((y) = (y) + 3 ∨ ((y) + 7 ≤ (y) ∧ (y) ≤ (y) + 11)) ∨ (y) = (y) + 6) := by omega
theorem dW_685 (x y : Nat) (hxy : x + 76 ≤ y) : ∀ k : Nat, ¬ (((x + 1)) = (x) + 24 ∨ ((x + 1)) = (x) + 27 ∨ ((x) + 58 ≤ ((x + 1)) ∧ ((x + 1)) ≤ (x) + 67) ∨ ((x + 1)) = (x) + 69 ∨ ((x + 1)) = (x) + 71 ∨ ((x + 1)) = (x) + 73 ∨ ((x + 1)) = (x) + 75) := by intros; omega
theorem dW_686 (x y : Nat) (hxy : x + 76 ≤ y) : ∀ j : Nat, j < 9 → ∀ k : Nat, k < 6 → ¬ (((x + 1 + 6 + 1 * j)) = (x) + 24 ∨ ((x + 1 + 6 + 1 * j)) = (x) + 27 ∨ ((x) + 58 ≤ ((x + 1 + 6 + 1 * j)) ∧ ((x + 1 + 6 + 1 * j)) ≤ (x) + 67) ∨ ((x + 1 + 6 + 1 * j)) = (x) + 69 ∨ ((x + 1 + 6 + 1 * j)) = (x) + 71 ∨ ((x + 1 + 6 + 1 * j)) = (x) + 73 ∨ ((x + 1 + 6 + 1 * j)) = (x) + 75) := by intros; omega
theorem dW_687 (x y : Nat) (hxy : x + 76 ≤ y) : ∀ k : Nat, 7 ≤ k → k < 61 → ¬ ((((y + 1)) = (y) + 3 ∨ ((y) + 7 ≤ ((y + 1)) ∧ ((y + 1)) ≤ (y) + 11)) ∨ ((y + 1)) = (y) + 6) := by intros; omega
theorem dW_688 (x y : Nat) (hxy : x + 76 ≤ y) : ∀ j : Nat, j < 6 → ¬ (((x + 1 + 15 + 1 * j)) = (x) + 24 ∨ ((x + 1 + 15 + 1 * j)) = (x) + 27 ∨ ((x) + 58 ≤ ((x + 1 + 15 + 1 * j)) ∧ ((x + 1 + 15 + 1 * j)) ≤ (x) + 67) ∨ ((x + 1 + 15 + 1 * j)) = (x) + 69 ∨ ((x + 1 + 15 + 1 * j)) = (x) + 71 ∨ ((x + 1 + 15 + 1 * j)) = (x) + 73 ∨ ((x + 1 + 15 + 1 * j)) = (x) + 75) := by intros; omega
theorem dW_689 (x y : Nat) (hxy : x + 76 ≤ y) : ∀ j : Nat, j < 6 → ¬ ((((y + 1)) = (y) + 3 ∨ ((y) + 7 ≤ ((y + 1)) ∧ ((y + 1)) ≤ (y) + 11)) ∨ ((y + 1)) = (y) + 6) := by intros; omega
theorem dW_690 (x y : Nat) (hxy : x + 76 ≤ y) : ∀ j : Nat, j < 4 → ¬ (((x + 68 + 2 * j)) = (x) + 24 ∨ ((x + 68 + 2 * j)) = (x) + 27 ∨ ((x) + 58 ≤ ((x + 68 + 2 * j)) ∧ ((x + 68 + 2 * j)) ≤ (x) + 67) ∨ ((x + 68 + 2 * j)) = (x) + 69 ∨ ((x + 68 + 2 * j)) = (x) + 71 ∨ ((x + 68 + 2 * j)) = (x) + 73 ∨ ((x + 68 + 2 * j)) = (x) + 75) := by intros; omega
theorem dW_691 (x y : Nat) (hxy : x + 76 ≤ y) : ∀ j : Nat, j < 4 → ¬ ((((y + 4)) = (y) + 3 ∨ ((y) + 7 ≤ ((y + 4)) ∧ ((y + 4)) ≤ (y) + 11)) ∨ ((y + 4)) = (y) + 6) := by intros; omega
theorem dW_692 (x y : Nat) (hxy : x + 76 ≤ y) : ∀ j : Nat, j < 4 → ¬ ((((y + 5)) = (y) + 3 ∨ ((y) + 7 ≤ ((y + 5)) ∧ ((y + 5)) ≤ (y) + 11)) ∨ ((y + 5)) = (y) + 6) := by intros; omega
theorem dW_693 (x y : Nat) (hxy : x + 76 ≤ y) : ¬ (((x + 56)) = (x) + 24 ∨ ((x + 56)) = (x) + 27 ∨ ((x) + 58 ≤ ((x + 56)) ∧ ((x + 56)) ≤ (x) + 67) ∨ ((x + 56)) = (x) + 69 ∨ ((x + 56)) = (x) + 71 ∨ ((x + 56)) = (x) + 73 ∨ ((x + 56)) = (x) + 75) := by omega
theorem dW_694 (x y : Nat) (hxy : x + 76 ≤ y) : ∀ k : Nat, ¬ (((x + 56 + 1)) = (x) + 24 ∨ ((x + 56 + 1)) = (x) + 27 ∨ ((x) + 58 ≤ ((x + 56 + 1)) ∧ ((x + 56 + 1)) ≤ (x) + 67) ∨ ((x + 56 + 1)) = (x) + 69 ∨ ((x + 56 + 1)) = (x) + 71 ∨ ((x + 56 + 1)) = (x) + 73 ∨ ((x + 56 + 1)) = (x) + 75) := by intros; omega
theorem dW_695 (x y : Nat) (hxy : x + 76 ≤ y) : ∀ k : Nat, ¬ ((((y + 12)) = (y) + 3 ∨ ((y) + 7 ≤ ((y + 12)) ∧ ((y + 12)) ≤ (y) + 11)) ∨ ((y + 12)) = (y) + 6) := by intros; omega
theorem dW_696 (x y : Nat) (hxy : x + 76 ≤ y) : ¬ (((x + 1)) = (x) + 24 ∨ ((x + 1)) = (x) + 27 ∨ ((x) + 58 ≤ ((x + 1)) ∧ ((x + 1)) ≤ (x) + 67) ∨ ((x + 1)) = (x) + 69 ∨ ((x + 1)) = (x) + 71 ∨ ((x + 1)) = (x) + 73 ∨ ((x + 1)) = (x) + 75) := by omega
theorem dW_697 (x y : Nat) (hxy : x + 76 ≤ y) : ∀ k : Nat, ¬ (((x + 1 + 4)) = (x) + 24 ∨ ((x + 1 + 4)) = (x) + 27 ∨ ((x) + 58 ≤ ((x + 1 + 4)) ∧ ((x + 1 + 4)) ≤ (x) + 67) ∨ ((x + 1 + 4)) = (x) + 69 ∨ ((x + 1 + 4)) = (x) + 71 ∨ ((x + 1 + 4)) = (x) + 73 ∨ ((x + 1 + 4)) = (x) + 75) := by intros; omega
theorem dW_698 (x y : Nat) (hxy : x + 76 ≤ y) : ¬ ((((y + 1)) = (y) + 3 ∨ ((y) + 7 ≤ ((y + 1)) ∧ ((y + 1)) ≤ (y) + 11)) ∨ ((y + 1)) = (y) + 6) := by omega
theorem dW_699 (x y : Nat) (hxy : x + 76 ≤ y) : ∀ k : Nat, k < 60 → ¬ ((((y + 1)) = (y) + 3 ∨ ((y) + 7 ≤ ((y + 1)) ∧ ((y + 1)) ≤ (y) + 11)) ∨ ((y + 1)) = (y) + 6) := by intros; omega
theorem dW_700 (x y : Nat) (hxy : x + 76 ≤ y) : ∀ a : Nat, (a = x + 1 + 21 ∨ a = x + 1 + 22 ∨ a = x + 1 + 24 ∨ a = x + 1 + 25) → ∀ k : Nat, ¬ ((a) = (x) + 24 ∨ (a) = (x) + 27 ∨ ((x) + 58 ≤ (a) ∧ (a) ≤ (x) + 67) ∨ (a) = (x) + 69 ∨ (a) = (x) + 71 ∨ (a) = (x) + 73 ∨ (a) = (x) + 75) := by intros; omega
theorem dW_701 (x y : Nat) (hxy : x + 76 ≤ y) : ∀ k : Nat, 157 ≤ k → ¬ ((((y + 1)) = (y) + 3 ∨ ((y) + 7 ≤ ((y + 1)) ∧ ((y + 1)) ≤ (y) + 11)) ∨ ((y + 1)) = (y) + 6) := by intros; omega
theorem dW_702 (x y : Nat) (hxy : x + 76 ≤ y) : ∀ k : Nat, k < 24 → ¬ (((x + 1 + 5)) = (x) + 24 ∨ ((x + 1 + 5)) = (x) + 27 ∨ ((x) + 58 ≤ ((x + 1 + 5)) ∧ ((x + 1 + 5)) ≤ (x) + 67) ∨ ((x + 1 + 5)) = (x) + 69 ∨ ((x + 1 + 5)) = (x) + 71 ∨ ((x + 1 + 5)) = (x) + 73 ∨ ((x + 1 + 5)) = (x) + 75) := by intros; omega
theorem dW_703 (x y : Nat) (hxy : x + 76 ≤ y) : ∀ k : Nat, k < 24 → ¬ ((((y + 1)) = (y) + 3 ∨ ((y) + 7 ≤ ((y + 1)) ∧ ((y + 1)) ≤ (y) + 11)) ∨ ((y + 1)) = (y) + 6) := by intros; omega
theorem dW_704 (x y : Nat) (hxy : x + 76 ≤ y) : ∀ j : Nat, j < 9 → ∀ k : Nat, k < 6 → ¬ (((x + 28 + 6 + 1 * j)) = (x) + 24 ∨ ((x + 28 + 6 + 1 * j)) = (x) + 27 ∨ ((x) + 58 ≤ ((x + 28 + 6 + 1 * j)) ∧ ((x + 28 + 6 + 1 * j)) ≤ (x) + 67) ∨ ((x + 28 + 6 + 1 * j)) = (x) + 69 ∨ ((x + 28 + 6 + 1 * j)) = (x) + 71 ∨ ((x + 28 + 6 + 1 * j)) = (x) + 73 ∨ ((x + 28 + 6 + 1 * j)) = (x) + 75) := by intros; omega
theorem dW_705 (x y : Nat) (hxy : x + 76 ≤ y) : ∀ k : Nat, 7 ≤ k → k < 61 → ¬ ((((y + 2)) = (y) + 3 ∨ ((y) + 7 ≤ ((y + 2)) ∧ ((y + 2)) ≤ (y) + 11)) ∨ ((y + 2)) = (y) + 6) := by intros; omega
theorem dW_706 (x y : Nat) (hxy : x + 76 ≤ y) : ∀ j : Nat, j < 6 → ¬ (((x + 28 + 15 + 1 * j)) = (x) + 24 ∨ ((x + 28 + 15 + 1 * j)) = (x) + 27 ∨ ((x) + 58 ≤ ((x + 28 + 15 + 1 * j)) ∧ ((x + 28 + 15 + 1 * j)) ≤ (x) + 67) ∨ ((x + 28 + 15 + 1 * j)) = (x) + 69 ∨ ((x + 28 + 15 + 1 * j)) = (x) + 71 ∨ ((x + 28 + 15 + 1 * j)) = (x) + 73 ∨ ((x + 28 + 15 + 1 * j)) = (x) + 75) := by intros; omega
theorem dW_707 (x y : Nat) (hxy : x + 76 ≤ y) : ∀ j : Nat, j < 6 → ¬ ((((y + 2)) = (y) + 3 ∨ ((y) + 7 ≤ ((y + 2)) ∧ ((y + 2)) ≤ (y) + 11)) ∨ ((y + 2)) = (y) + 6) := by intros; omega
theorem dW_708 (x y : Nat) (hxy : x + 76 ≤ y) : ¬ (((x + 28)) = (x) + 24 ∨ ((x + 28)) = (x) + 27 ∨ ((x) + 58 ≤ ((x + 28)) ∧ ((x + 28)) ≤ (x) + 67) ∨ ((x + 28)) = (x) + 69 ∨ ((x + 28)) = (x) + 71 ∨ ((x + 28)) = (x) + 73 ∨ ((x + 28)) = (x) + 75) := by omega
theorem dW_709 (x y : Nat) (hxy : x + 76 ≤ y) : ∀ k : Nat, ¬ (((x + 28 + 4)) = (x) + 24 ∨ ((x + 28 + 4)) = (x) + 27 ∨ ((x) + 58 ≤ ((x + 28 + 4)) ∧ ((x + 28 + 4)) ≤ (x) + 67) ∨ ((x + 28 + 4)) = (x) + 69 ∨ ((x + 28 + 4)) = (x) + 71 ∨ ((x + 28 + 4)) = (x) + 73 ∨ ((x + 28 + 4)) = (x) + 75) := by intros; omega
theorem dW_710 (x y : Nat) (hxy : x + 76 ≤ y) : ¬ ((((y + 2)) = (y) + 3 ∨ ((y) + 7 ≤ ((y + 2)) ∧ ((y + 2)) ≤ (y) + 11)) ∨ ((y + 2)) = (y) + 6) := by omega
theorem dW_711 (x y : Nat) (hxy : x + 76 ≤ y) : ∀ k : Nat, k < 60 → ¬ ((((y + 2)) = (y) + 3 ∨ ((y) + 7 ≤ ((y + 2)) ∧ ((y + 2)) ≤ (y) + 11)) ∨ ((y + 2)) = (y) + 6) := by intros; omega
theorem dW_712 (x y : Nat) (hxy : x + 76 ≤ y) : ∀ a : Nat, (a = x + 28 + 21 ∨ a = x + 28 + 22 ∨ a = x + 28 + 24 ∨ a = x + 28 + 25) → ∀ k : Nat, ¬ ((a) = (x) + 24 ∨ (a) = (x) + 27 ∨ ((x) + 58 ≤ (a) ∧ (a) ≤ (x) + 67) ∨ (a) = (x) + 69 ∨ (a) = (x) + 71 ∨ (a) = (x) + 73 ∨ (a) = (x) + 75) := by intros; omega
theorem dW_713 (x y : Nat) (hxy : x + 76 ≤ y) : ∀ k : Nat, 157 ≤ k → ¬ ((((y + 2)) = (y) + 3 ∨ ((y) + 7 ≤ ((y + 2)) ∧ ((y + 2)) ≤ (y) + 11)) ∨ ((y + 2)) = (y) + 6) := by intros; omega
theorem dW_714 (x y : Nat) (hxy : x + 76 ≤ y) : ∀ k : Nat, k < 24 → ¬ (((x + 28 + 5)) = (x) + 24 ∨ ((x + 28 + 5)) = (x) + 27 ∨ ((x) + 58 ≤ ((x + 28 + 5)) ∧ ((x + 28 + 5)) ≤ (x) + 67) ∨ ((x + 28 + 5)) = (x) + 69 ∨ ((x + 28 + 5)) = (x) + 71 ∨ ((x + 28 + 5)) = (x) + 73 ∨ ((x + 28 + 5)) = (x) + 75) := by intros; omega
theorem dW_715 (x y : Nat) (hxy : x + 76 ≤ y) : ∀ k : Nat, k < 24 → ¬ ((((y + 2)) = (y) + 3 ∨ ((y) + 7 ≤ ((y + 2)) ∧ ((y + 2)) ≤ (y) + 11)) ∨ ((y + 2)) = (y) + 6) := by intros; omega
set_option maxHeartbeats 4000000 in
set_option maxRecDepth 100000 in
theorem lc_put {p : Program} {l : Launch} {e : Env} {s : State} {m : MethodId} {below : List Frame} {meth : Method} {c : Code} {b L x y : Nat} {xs : Nat → Int32} {E : zz_E} {Q : State → Prop} (hA : zz_LA p s m c b L xs E x y) (i : Int32) (hi : 0 ≤ i.toInt ∧ i.toInt + 6 ≤ L) (σ : zz_S) (H : Heap) (locs : List Loc) (ls : Array Slot) (hR : zz_RL σ x y) (hQ : zz_RD σ x y) (hP : zz_P E σ H) (hS : va_S (zz_A E) s.heap H locs) (hl : lv_has ls 4 [(0, .ref b), (1, .ref x), (2, .ref y), (3, .int i)])
    (kk : ∀ (σ1 : zz_S) (H1 : Heap) (locs1 : List Loc), zz_RL σ1 x y → zz_RD σ1 x y → zz_P E σ1 H1 → va_S (zz_A E) s.heap H1 locs1 → W p l e room_1 s m #[Value.ref b] below meth c H1 locs1 600000 7302250 Q (F0 m 1384 ls [])) : W p l e room_1 s m #[Value.ref b] below meth c H locs 600000 7302250 Q (F0 m 1124 ls []) := by
  obtain ⟨hx, hb, hml, hown, hts, hX, hbl, hbE, hL, gL, gM, hxy, hK⟩ := hA
  have hbA : ¬ zz_A E b := fun h => absurd (hbE b h) (Nat.not_le.mpr hbl)
  have k_1 : (1 : Int32).toInt = 1 := by decide +kernel
  have k_2 : (2 : Int32).toInt = 2 := by decide +kernel
  have k_3 : (3 : Int32).toInt = 3 := by decide +kernel
  refine lv_aload_n hx hb dL_law_1124 rfl (lv_at hl 1 rfl) ?_
  refine lv_aload_n hx hb dL_law_1125 rfl (lv_at hl 0 rfl) ?_
  refine lv_iload_n hx hb dL_law_1126 rfl (lv_at hl 3 rfl) ?_
  refine lv_iconst (v := 1) hx hb dL_law_1127 (by decide) ?_
  refine lv_iadd hx hb dL_law_1128 ?_
  refine lv_topi (fun n1 e1 => ?_)
  have f1 : n1.toInt = (i).toInt + (1 : Int32).toInt := zz_addT e1 (by omega) (by omega)
  refine va_sld hx hb hX hbl hbA hS (vp_in_iff.mpr ⟨by omega, by omega⟩) dL_law_1129 ?_
  refine lv_topi (fun v2 u2 => ?_)
  refine lv_aload_n hx hb dL_law_1130 rfl (lv_at hl 0 rfl) ?_
  refine lv_iload_n hx hb dL_law_1131 rfl (lv_at hl 3 rfl) ?_
  refine lv_iconst (v := 2) hx hb dL_law_1132 (by decide) ?_
  refine lv_iadd hx hb dL_law_1133 ?_
  refine lv_topi (fun n3 e3 => ?_)
  have f3 : n3.toInt = (i).toInt + (2 : Int32).toInt := zz_addT e3 (by omega) (by omega)
  refine va_sld hx hb hX hbl hbA hS (vp_in_iff.mpr ⟨by omega, by omega⟩) dL_law_1134 ?_
  refine lv_topi (fun v4 u4 => ?_)
  refine lv_aload_n hx hb dL_law_1135 rfl (lv_at hl 0 rfl) ?_
  refine lv_iload_n hx hb dL_law_1136 rfl (lv_at hl 3 rfl) ?_
  refine lv_iconst (v := 3) hx hb dL_law_1137 (by decide) ?_
  refine lv_iadd hx hb dL_law_1138 ?_
  refine lv_topi (fun n5 e5 => ?_)
  have f5 : n5.toInt = (i).toInt + (3 : Int32).toInt := zz_addT e5 (by omega) (by omega)
  refine va_sld hx hb hX hbl hbA hS (vp_in_iff.mpr ⟨by omega, by omega⟩) dL_law_1139 ?_
  refine lv_topi (fun v6 u6 => ?_)
  refine zz_callVi (As := [.int v2, .int v4, .int v6]) (rest := []) ⟨hx, hb, hml, hown, hts⟩ hK hP hS (c_X8_put l E σ x v2 v4 v6 gL hR.1) (cwV 3 hts gL_law_X8_put rfl rfl rfl (by decide +kernel) ⟨Nat.le_of_ble_eq_true rfl, Nat.le_of_ble_eq_true rfl⟩) (gL.1) rfl rfl hl.1 rfl (Nat.le_of_ble_eq_true rfl) dL_law_1140 ⟨Nat.le_refl _, Nat.le_refl _⟩ (fun r1 σ1 H locs q1 hP hS => ?_)
  try dsimp only at q1
  obtain ⟨w1, p1⟩ := q1
  have B : ∀ a k : Nat, y ≤ a → a ≤ y + 12 → σ1 a k = σ a k := fun a k h1 h2 => w1 a k ((dW_677 x y hxy) a k h1 h2)
  have hJ1 : zz_IM σ1 y := hR.2.1.far B
  refine lv_pop hx hb dL_law_1143 rfl ?_
  refine lv_aload_n hx hb dL_law_1144 rfl (lv_at hl 2 rfl) ?_
  refine lv_aload_n hx hb dL_law_1145 rfl (lv_at hl 0 rfl) ?_
  refine lv_iload_n hx hb dL_law_1146 rfl (lv_at hl 3 rfl) ?_
  refine lv_iconst (v := 1) hx hb dL_law_1147 (by decide) ?_
  refine lv_iadd hx hb dL_law_1148 ?_
  refine lv_topi (fun n8 e8 => ?_)
  have f8 : n8.toInt = (i).toInt + (1 : Int32).toInt := zz_addT e8 (by omega) (by omega)
  refine va_sld hx hb hX hbl hbA hS (vp_in_iff.mpr ⟨by omega, by omega⟩) dL_law_1149 ?_
  refine lv_topi (fun v9 u9 => ?_)
  have z9 : v9 = v2 := by rw [u9, u2, e8, e1]
  have zt9 := congrArg Int32.toInt z9
  refine lv_aload_n hx hb dL_law_1150 rfl (lv_at hl 0 rfl) ?_
  refine lv_iload_n hx hb dL_law_1151 rfl (lv_at hl 3 rfl) ?_
  refine lv_iconst (v := 2) hx hb dL_law_1152 (by decide) ?_
  refine lv_iadd hx hb dL_law_1153 ?_
  refine lv_topi (fun n10 e10 => ?_)
  have f10 : n10.toInt = (i).toInt + (2 : Int32).toInt := zz_addT e10 (by omega) (by omega)
  refine va_sld hx hb hX hbl hbA hS (vp_in_iff.mpr ⟨by omega, by omega⟩) dL_law_1154 ?_
  refine lv_topi (fun v11 u11 => ?_)
  have z11 : v11 = v4 := by rw [u11, u4, e10, e3]
  have zt11 := congrArg Int32.toInt z11
  refine lv_aload_n hx hb dL_law_1155 rfl (lv_at hl 0 rfl) ?_
  refine lv_iload_n hx hb dL_law_1156 rfl (lv_at hl 3 rfl) ?_
  refine lv_iconst (v := 3) hx hb dL_law_1157 (by decide) ?_
  refine lv_iadd hx hb dL_law_1158 ?_
  refine lv_topi (fun n12 e12 => ?_)
  have f12 : n12.toInt = (i).toInt + (3 : Int32).toInt := zz_addT e12 (by omega) (by omega)
  refine va_sld hx hb hX hbl hbA hS (vp_in_iff.mpr ⟨by omega, by omega⟩) dL_law_1159 ?_
  refine lv_topi (fun v13 u13 => ?_)
  have z13 : v13 = v6 := by rw [u13, u6, e12, e5]
  have zt13 := congrArg Int32.toInt z13
  refine zz_callVi (As := [.int v9, .int v11, .int v13]) (rest := []) ⟨hx, hb, hml, hown, hts⟩ hK hP hS (c_X9_put l E σ1 y v9 v11 v13 gM hJ1) (cwV 3 hts gL_law_X9_put rfl rfl rfl (by decide +kernel) ⟨Nat.le_of_ble_eq_true rfl, Nat.le_of_ble_eq_true rfl⟩) (gM.1) rfl rfl hl.1 rfl (Nat.le_of_ble_eq_true rfl) dL_law_1160 ⟨Nat.le_refl _, Nat.le_refl _⟩ (fun r2 σ2 H locs q2 hP hS => ?_)
  try dsimp only at q2
  obtain ⟨w2, p2⟩ := q2
  have A : ∀ a k : Nat, x ≤ a → a < x + 76 → σ2 a k = σ1 a k := fun a k h1 h2 => w2 a k ((dW_678 x y hxy) a k h1 h2)
  obtain ⟨i1, p1⟩ := p1
  have i2 : zz_IM σ2 y := hJ1.soft (w2.mono (dW_679 x y hxy))
  try simp only [z9, z11, z13] at p2
  have hRL : zz_RL σ2 x y := hR.soft i1 i2 A B (fun k => w1 (x + 1) k ((dW_685 x y hxy) k)) (fun k hk => w2 (y + 1) k ((dW_680 x y hxy) k hk)) (fun k => w1 (x + 28) k ((dW_681 x y hxy) k)) (w1 x 2 (dW_682 x y hxy)) (fun k => w2 (y + 2) k ((dW_683 x y hxy) k)) (w2 y 2 (dW_684 x y hxy))
  obtain ⟨hqD, hqW, hqK, hqB, hqN, hqC, hqL, hqT, hqP, hqX, hqF, hqG, hqV⟩ := hQ
  obtain ⟨aD, aW, aKD, aKW, aB, aN, aC, aL, aT, aP, aX, aKP, aKX⟩ := zz_aX A
  obtain ⟨bD, bW, bKD, bKW, bB, bN, bC, bL, bT, bP, bX, bKP, bKX⟩ := zz_bM hR.2.1 B
  obtain ⟨aF, aKF, aV, aKV⟩ := zy_aX2 A
  obtain ⟨bF, bKF, bV, bKV⟩ := zy_bM2 B
  have rD : zz_DX σ2 (x + 1) = zz_DM σ2 (y + 1) := by rw [aD, zz_DXk (r := x + 1) w1 (dW_686 x y hxy), zz_DMk (a := y + 1) w2 (dW_687 x y hxy), bD, hqD]
  have rW : zz_PX 0 σ2 (x + 1) = zz_PM 0 σ2 (y + 1) := by rw [aW, zz_PXk (f := 0) (r := x + 1) w1 (dW_688 x y hxy), zz_PMk (f := 0) (a := y + 1) w2 (dW_689 x y hxy), bW, hqW]
  have rB : zz_HX 0 σ2 x = zz_HM σ2 (y + 4) := by rw [aB, zz_HX.eq (f := 0) (x := x) (fun j hj => w1 _ _ ((dW_690 x y hxy) j hj)), zz_HM.eq (a := y + 4) (fun j hj => w2 _ _ ((dW_691 x y hxy) j hj)), bB, hqB]
  have rN : zz_HX 1 σ2 x = zz_HM σ2 (y + 5) := by rw [aN, zz_HX.eq (f := 1) (x := x) (fun j hj => w1 _ _ ((dW_690 x y hxy) j hj)), zz_HM.eq (a := y + 5) (fun j hj => w2 _ _ ((dW_692 x y hxy) j hj)), bN, hqN]
  have rL : (σ2 (x + 56) 1).toInt = (σ2 y 18).toInt := by rw [aL, congrArg Int32.toInt (w1 (x + 56) 1 (dW_693 x y hxy)), congrArg Int32.toInt (w2 y 18 (dW_684 x y hxy)), bL, hqL]
  have rT : zz_TV σ2 (x + 56 + 1) = zz_TV σ2 (y + 12) := by rw [aT, zz_TV.eq (a := x + 56 + 1) (b := x + 56 + 1) (fun k _ => w1 _ k ((dW_694 x y hxy) k)), zz_TV.eq (a := y + 12) (b := y + 12) (fun k _ => w2 _ k ((dW_695 x y hxy) k)), bT, hqT]
  have rP : zz_Tp σ2 (x + 1 + 4) (σ2 (x + 1) 9).toInt = zz_Tm σ2 (y + 1) := by rw [aP, zz_Tp.all (a := x + 1 + 4) (b := x + 1 + 4) (congrArg Int32.toInt (w1 (x + 1) 9 (dW_696 x y hxy))) (fun k => w1 _ k ((dW_697 x y hxy) k)), zz_Tm.eq (a := y + 1) (b := y + 1) (w2 (y + 1) 5 (dW_698 x y hxy)) hJ1.1.2.2.2.2.1.2 (fun k hk => w2 (y + 1) (73 + k) ((dW_699 x y hxy) k hk)), bP, hqP]
  have rX : zz_tts (zz_XT σ2 (x + 1)) (zz_MT σ2 (y + 1)) := by rw [aX, zz_XT.all (r := x + 1) (fun a ha k => w1 a k ((dW_700 x y hxy) a ha k)), zz_MT.hi (a := y + 1) (b := y + 1) (fun k hk => w2 (y + 1) k ((dW_701 x y hxy) k hk)), bX]; exact hqX
  have rF : zz_PX 1 σ2 (x + 1) = zz_PM 1 σ2 (y + 1) := by rw [aF, zz_PXk (f := 1) (r := x + 1) w1 (dW_688 x y hxy), zz_PMk (f := 1) (a := y + 1) w2 (dW_689 x y hxy), bF, hqF]
  have rV : zy_wv σ2 (x + 1 + 5) 0 (σ2 (x + 1) 11).toInt = zy_wv σ2 (y + 1) 133 (σ2 (y + 1) 6).toInt := by rw [aV, zy_wv.eq (a := x + 1 + 5) (a1 := x + 1 + 5) (b := 0) (b1 := 0) (congrArg Int32.toInt (w1 (x + 1) 11 (dW_696 x y hxy))) (fun k hk => w1 (x + 1 + 5) (0 + k) ((dW_702 x y hxy) k hk)), zy_wv.eq (a := y + 1) (a1 := y + 1) (b := 133) (b1 := 133) (congrArg Int32.toInt (w2 (y + 1) 6 (dW_698 x y hxy))) (fun k hk => w2 (y + 1) (133 + k) ((dW_703 x y hxy) k hk)), bV, hqV]
  have rG : zy_FB (zz_PM 1 σ2 (y + 1)) := by rw [zz_PMk (f := 1) (a := y + 1) w2 (dW_689 x y hxy), bF]; exact hqG
  have rK : (σ2 x 2).toInt = 0 ∨ (zz_DX σ2 (x + 28) = zz_DM σ2 (y + 2) ∧ zz_PX 0 σ2 (x + 28) = zz_PM 0 σ2 (y + 2) ∧ zz_Tp σ2 (x + 28 + 4) (σ2 (x + 28) 9).toInt = zz_Tm σ2 (y + 2) ∧ zz_tts (zz_XT σ2 (x + 28)) (zz_MT σ2 (y + 2)) ∧ zz_PX 1 σ2 (x + 28) = zz_PM 1 σ2 (y + 2) ∧ zy_FB (zz_PM 1 σ2 (y + 2)) ∧ zy_wv σ2 (x + 28 + 5) 0 (σ2 (x + 28) 11).toInt = zy_wv σ2 (y + 2) 133 (σ2 (y + 2) 6).toInt) := hqK.elim (fun q => Or.inl ((congrArg Int32.toInt ((A x 2 (by omega) (by omega)).trans (w1 x 2 (dW_682 x y hxy)))).trans q)) (fun q => Or.inr ⟨by rw [aKD, zz_DXk (r := x + 28) w1 (dW_704 x y hxy), zz_DMk (a := y + 2) w2 (dW_705 x y hxy), bKD, q.1], by rw [aKW, zz_PXk (f := 0) (r := x + 28) w1 (dW_706 x y hxy), zz_PMk (f := 0) (a := y + 2) w2 (dW_707 x y hxy), bKW, q.2.1], by rw [aKP, zz_Tp.all (a := x + 28 + 4) (b := x + 28 + 4) (congrArg Int32.toInt (w1 (x + 28) 9 (dW_708 x y hxy))) (fun k => w1 _ k ((dW_709 x y hxy) k)), zz_Tm.eq (a := y + 2) (b := y + 2) (w2 (y + 2) 5 (dW_710 x y hxy)) hJ1.2.1.2.2.2.2.1.2 (fun k hk => w2 (y + 2) (73 + k) ((dW_711 x y hxy) k hk)), bKP, q.2.2.1], by rw [aKX, zz_XT.all (r := x + 28) (fun a ha k => w1 a k ((dW_712 x y hxy) a ha k)), zz_MT.hi (a := y + 2) (b := y + 2) (fun k hk => w2 (y + 2) k ((dW_713 x y hxy) k hk)), bKX]; exact q.2.2.2.1, by rw [aKF, zz_PXk (f := 1) (r := x + 28) w1 (dW_706 x y hxy), zz_PMk (f := 1) (a := y + 2) w2 (dW_707 x y hxy), bKF, q.2.2.2.2.1], by rw [zz_PMk (f := 1) (a := y + 2) w2 (dW_707 x y hxy), bKF]; exact q.2.2.2.2.2.1, by rw [aKV, zy_wv.eq (a := x + 28 + 5) (a1 := x + 28 + 5) (b := 0) (b1 := 0) (congrArg Int32.toInt (w1 (x + 28) 11 (dW_708 x y hxy))) (fun k hk => w1 (x + 28 + 5) (0 + k) ((dW_714 x y hxy) k hk)), zy_wv.eq (a := y + 2) (a1 := y + 2) (b := 133) (b1 := 133) (congrArg Int32.toInt (w2 (y + 2) 6 (dW_710 x y hxy))) (fun k hk => w2 (y + 2) (133 + k) ((dW_715 x y hxy) k hk)), bKV, q.2.2.2.2.2.2]⟩)
  have eB : zz_HX 0 σ x = zz_HM σ1 (y + 4) := hqB.trans bB.symm
  have eN : zz_HX 1 σ x = zz_HM σ1 (y + 5) := hqN.trans bN.symm
  have eC : zz_CX σ x = zz_CM σ1 (y + 6) := hqC.trans bC.symm
  have eW : zz_PX 0 σ (x + 1) = zz_PM 0 σ1 (y + 1) := hqW.trans bW.symm
  have gc6 : (σ (x + 1) 6).toInt = (σ1 (y + 1) 3).toInt := hR.2.2.1.2.2.2.2.1.trans (congrArg Int32.toInt (B (y + 1) 3 (by omega) (by omega))).symm
  simp only [eB, eN, eC, eW, gc6] at p1
  have rB2 : zz_CX σ2 x = zz_CM σ2 (y + 6) ∧ r1.toInt = r2.toInt := by
    rcases p1 with ⟨a1, a2, ea⟩ | ⟨a1, a2, a3, ea⟩ | ⟨a1, a2, a3, a4, ea⟩ | ⟨a1, a2, a3, a4, ea⟩
    all_goals rcases p2 with ⟨b1, b2, eb⟩ | ⟨b1, b2, b3, eb⟩ | ⟨b1, b2, b3, b4, eb⟩ | ⟨b1, b2, b3, b4, eb⟩
    all_goals first | (exfalso; omega) | (exact ⟨by rw [aC, ea, eb], by omega⟩)
  have rC := rB2.1
  have hQ2 : zz_RD σ2 x y := ⟨rD, rW, rK, rB, rN, rC, rL, rT, rP, rX, rF, rG, rV⟩
  refine lv_pop hx hb dL_law_1163 rfl ?_
  refine lv_goto (tgt := 1384) hx hb dL_law_1164 (by decide) ?_
  exact kk _ _ _ hRL hQ2 hP hS
theorem gL_law_X8_move : GoodIn wsL_law (wsV RL 136 RX8 yX8_move wzX8_move) := wz_coL bm_910 (wz_coL bm_911 (wz_coL bm_912 (wz_coL bm_2 (wz_inL bm_913))))
theorem gL_law_X9_move : GoodIn wsL_law (wsV RL 140 RX9 yX9_move wzX9_move) := wz_coL bm_919 (wz_coL bm_920 (wz_coL bm_921 (wz_coL bm_5 (wz_inL bm_922))))
set_option maxHeartbeats 4000000 in
set_option maxRecDepth 100000 in
theorem lc_move {p : Program} {l : Launch} {e : Env} {s : State} {m : MethodId} {below : List Frame} {meth : Method} {c : Code} {b L x y : Nat} {xs : Nat → Int32} {E : zz_E} {Q : State → Prop} (hA : zz_LA p s m c b L xs E x y) (i : Int32) (hi : 0 ≤ i.toInt ∧ i.toInt + 6 ≤ L) (σ : zz_S) (H : Heap) (locs : List Loc) (ls : Array Slot) (hR : zz_RL σ x y) (hQ : zz_RD σ x y) (hP : zz_P E σ H) (hS : va_S (zz_A E) s.heap H locs) (hl : lv_has ls 4 [(0, .ref b), (1, .ref x), (2, .ref y), (3, .int i)])
    (kk : ∀ (σ1 : zz_S) (H1 : Heap) (locs1 : List Loc), zz_RL σ1 x y → zz_RD σ1 x y → zz_P E σ1 H1 → va_S (zz_A E) s.heap H1 locs1 → W p l e room_1 s m #[Value.ref b] below meth c H1 locs1 600000 7302250 Q (F0 m 1384 ls [])) : W p l e room_1 s m #[Value.ref b] below meth c H locs 600000 7302250 Q (F0 m 1167 ls []) := by
  obtain ⟨hx, hb, hml, hown, hts, hX, hbl, hbE, hL, gL, gM, hxy, hK⟩ := hA
  have hbA : ¬ zz_A E b := fun h => absurd (hbE b h) (Nat.not_le.mpr hbl)
  have k_1 : (1 : Int32).toInt = 1 := by decide +kernel
  have k_2 : (2 : Int32).toInt = 2 := by decide +kernel
  have k_3 : (3 : Int32).toInt = 3 := by decide +kernel
  have k_4 : (4 : Int32).toInt = 4 := by decide +kernel
  have k_5 : (5 : Int32).toInt = 5 := by decide +kernel
  refine lv_aload_n hx hb dL_law_1167 rfl (lv_at hl 1 rfl) ?_
  refine lv_aload_n hx hb dL_law_1168 rfl (lv_at hl 0 rfl) ?_
  refine lv_iload_n hx hb dL_law_1169 rfl (lv_at hl 3 rfl) ?_
  refine lv_iconst (v := 1) hx hb dL_law_1170 (by decide) ?_
  refine lv_iadd hx hb dL_law_1171 ?_
  refine lv_topi (fun n1 e1 => ?_)
  have f1 : n1.toInt = (i).toInt + (1 : Int32).toInt := zz_addT e1 (by omega) (by omega)
  refine va_sld hx hb hX hbl hbA hS (vp_in_iff.mpr ⟨by omega, by omega⟩) dL_law_1172 ?_
  refine lv_topi (fun v2 u2 => ?_)
  refine lv_aload_n hx hb dL_law_1173 rfl (lv_at hl 0 rfl) ?_
  refine lv_iload_n hx hb dL_law_1174 rfl (lv_at hl 3 rfl) ?_
  refine lv_iconst (v := 2) hx hb dL_law_1175 (by decide) ?_
  refine lv_iadd hx hb dL_law_1176 ?_
  refine lv_topi (fun n3 e3 => ?_)
  have f3 : n3.toInt = (i).toInt + (2 : Int32).toInt := zz_addT e3 (by omega) (by omega)
  refine va_sld hx hb hX hbl hbA hS (vp_in_iff.mpr ⟨by omega, by omega⟩) dL_law_1177 ?_
  refine lv_topi (fun v4 u4 => ?_)
  refine lv_aload_n hx hb dL_law_1178 rfl (lv_at hl 0 rfl) ?_
  refine lv_iload_n hx hb dL_law_1179 rfl (lv_at hl 3 rfl) ?_
  refine lv_iconst (v := 3) hx hb dL_law_1180 (by decide) ?_
  refine lv_iadd hx hb dL_law_1181 ?_
  refine lv_topi (fun n5 e5 => ?_)
  have f5 : n5.toInt = (i).toInt + (3 : Int32).toInt := zz_addT e5 (by omega) (by omega)
  refine va_sld hx hb hX hbl hbA hS (vp_in_iff.mpr ⟨by omega, by omega⟩) dL_law_1182 ?_
  refine lv_topi (fun v6 u6 => ?_)
  refine lv_aload_n hx hb dL_law_1183 rfl (lv_at hl 0 rfl) ?_
  refine lv_iload_n hx hb dL_law_1184 rfl (lv_at hl 3 rfl) ?_
  refine lv_iconst (v := 4) hx hb dL_law_1185 (by decide) ?_
  refine lv_iadd hx hb dL_law_1186 ?_
  refine lv_topi (fun n7 e7 => ?_)
  have f7 : n7.toInt = (i).toInt + (4 : Int32).toInt := zz_addT e7 (by omega) (by omega)
  refine va_sld hx hb hX hbl hbA hS (vp_in_iff.mpr ⟨by omega, by omega⟩) dL_law_1187 ?_
  refine lv_topi (fun v8 u8 => ?_)
  refine lv_aload_n hx hb dL_law_1188 rfl (lv_at hl 0 rfl) ?_
  refine lv_iload_n hx hb dL_law_1189 rfl (lv_at hl 3 rfl) ?_
  refine lv_iconst (v := 5) hx hb dL_law_1190 (by decide) ?_
  refine lv_iadd hx hb dL_law_1191 ?_
  refine lv_topi (fun n9 e9 => ?_)
  have f9 : n9.toInt = (i).toInt + (5 : Int32).toInt := zz_addT e9 (by omega) (by omega)
  refine va_sld hx hb hX hbl hbA hS (vp_in_iff.mpr ⟨by omega, by omega⟩) dL_law_1192 ?_
  refine lv_topi (fun v10 u10 => ?_)
  refine zz_callVi (As := [.int v2, .int v4, .int v6, .int v8, .int v10]) (rest := []) ⟨hx, hb, hml, hown, hts⟩ hK hP hS (c_X8_move l E σ x v2 v4 v6 v8 v10 gL hR.1) (cwV 5 hts gL_law_X8_move rfl rfl rfl (by decide +kernel) ⟨Nat.le_of_ble_eq_true rfl, Nat.le_of_ble_eq_true rfl⟩) (gL.1) rfl rfl hl.1 rfl (Nat.le_of_ble_eq_true rfl) dL_law_1193 ⟨Nat.le_refl _, Nat.le_refl _⟩ (fun r1 σ1 H locs q1 hP hS => ?_)
  try dsimp only at q1
  obtain ⟨w1, p1⟩ := q1
  have B : ∀ a k : Nat, y ≤ a → a ≤ y + 12 → σ1 a k = σ a k := fun a k h1 h2 => w1 a k ((dW_677 x y hxy) a k h1 h2)
  have hJ1 : zz_IM σ1 y := hR.2.1.far B
  refine lv_pop hx hb dL_law_1196 rfl ?_
  refine lv_aload_n hx hb dL_law_1197 rfl (lv_at hl 2 rfl) ?_
  refine lv_aload_n hx hb dL_law_1198 rfl (lv_at hl 0 rfl) ?_
  refine lv_iload_n hx hb dL_law_1199 rfl (lv_at hl 3 rfl) ?_
  refine lv_iconst (v := 1) hx hb dL_law_1200 (by decide) ?_
  refine lv_iadd hx hb dL_law_1201 ?_
  refine lv_topi (fun n12 e12 => ?_)
  have f12 : n12.toInt = (i).toInt + (1 : Int32).toInt := zz_addT e12 (by omega) (by omega)
  refine va_sld hx hb hX hbl hbA hS (vp_in_iff.mpr ⟨by omega, by omega⟩) dL_law_1202 ?_
  refine lv_topi (fun v13 u13 => ?_)
  have z13 : v13 = v2 := by rw [u13, u2, e12, e1]
  have zt13 := congrArg Int32.toInt z13
  refine lv_aload_n hx hb dL_law_1203 rfl (lv_at hl 0 rfl) ?_
  refine lv_iload_n hx hb dL_law_1204 rfl (lv_at hl 3 rfl) ?_
  refine lv_iconst (v := 2) hx hb dL_law_1205 (by decide) ?_
  refine lv_iadd hx hb dL_law_1206 ?_
  refine lv_topi (fun n14 e14 => ?_)
  have f14 : n14.toInt = (i).toInt + (2 : Int32).toInt := zz_addT e14 (by omega) (by omega)
  refine va_sld hx hb hX hbl hbA hS (vp_in_iff.mpr ⟨by omega, by omega⟩) dL_law_1207 ?_
  refine lv_topi (fun v15 u15 => ?_)
  have z15 : v15 = v4 := by rw [u15, u4, e14, e3]
  have zt15 := congrArg Int32.toInt z15
  refine lv_aload_n hx hb dL_law_1208 rfl (lv_at hl 0 rfl) ?_
  refine lv_iload_n hx hb dL_law_1209 rfl (lv_at hl 3 rfl) ?_
  refine lv_iconst (v := 3) hx hb dL_law_1210 (by decide) ?_
  refine lv_iadd hx hb dL_law_1211 ?_
  refine lv_topi (fun n16 e16 => ?_)
  have f16 : n16.toInt = (i).toInt + (3 : Int32).toInt := zz_addT e16 (by omega) (by omega)
  refine va_sld hx hb hX hbl hbA hS (vp_in_iff.mpr ⟨by omega, by omega⟩) dL_law_1212 ?_
  refine lv_topi (fun v17 u17 => ?_)
  have z17 : v17 = v6 := by rw [u17, u6, e16, e5]
  have zt17 := congrArg Int32.toInt z17
  refine lv_aload_n hx hb dL_law_1213 rfl (lv_at hl 0 rfl) ?_
  refine lv_iload_n hx hb dL_law_1214 rfl (lv_at hl 3 rfl) ?_
  refine lv_iconst (v := 4) hx hb dL_law_1215 (by decide) ?_
  refine lv_iadd hx hb dL_law_1216 ?_
  refine lv_topi (fun n18 e18 => ?_)
  have f18 : n18.toInt = (i).toInt + (4 : Int32).toInt := zz_addT e18 (by omega) (by omega)
  refine va_sld hx hb hX hbl hbA hS (vp_in_iff.mpr ⟨by omega, by omega⟩) dL_law_1217 ?_
  refine lv_topi (fun v19 u19 => ?_)
  have z19 : v19 = v8 := by rw [u19, u8, e18, e7]
  have zt19 := congrArg Int32.toInt z19
  refine lv_aload_n hx hb dL_law_1218 rfl (lv_at hl 0 rfl) ?_
  refine lv_iload_n hx hb dL_law_1219 rfl (lv_at hl 3 rfl) ?_
  refine lv_iconst (v := 5) hx hb dL_law_1220 (by decide) ?_
  refine lv_iadd hx hb dL_law_1221 ?_
  refine lv_topi (fun n20 e20 => ?_)
  have f20 : n20.toInt = (i).toInt + (5 : Int32).toInt := zz_addT e20 (by omega) (by omega)
  refine va_sld hx hb hX hbl hbA hS (vp_in_iff.mpr ⟨by omega, by omega⟩) dL_law_1222 ?_
  refine lv_topi (fun v21 u21 => ?_)
  have z21 : v21 = v10 := by rw [u21, u10, e20, e9]
  have zt21 := congrArg Int32.toInt z21
  refine zz_callVi (As := [.int v13, .int v15, .int v17, .int v19, .int v21]) (rest := []) ⟨hx, hb, hml, hown, hts⟩ hK hP hS (c_X9_move l E σ1 y v13 v15 v17 v19 v21 gM hJ1) (cwV 5 hts gL_law_X9_move rfl rfl rfl (by decide +kernel) ⟨Nat.le_of_ble_eq_true rfl, Nat.le_of_ble_eq_true rfl⟩) (gM.1) rfl rfl hl.1 rfl (Nat.le_of_ble_eq_true rfl) dL_law_1223 ⟨Nat.le_refl _, Nat.le_refl _⟩ (fun r2 σ2 H locs q2 hP hS => ?_)
  try dsimp only at q2
  obtain ⟨w2, p2⟩ := q2
  have A : ∀ a k : Nat, x ≤ a → a < x + 76 → σ2 a k = σ1 a k := fun a k h1 h2 => w2 a k ((dW_678 x y hxy) a k h1 h2)
  obtain ⟨i1, p1⟩ := p1
  have i2 : zz_IM σ2 y := hJ1.soft (w2.mono (dW_679 x y hxy))
  try simp only [z13, z15, z17, z19, z21] at p2
  have hRL : zz_RL σ2 x y := hR.soft i1 i2 A B (fun k => w1 (x + 1) k ((dW_685 x y hxy) k)) (fun k hk => w2 (y + 1) k ((dW_680 x y hxy) k hk)) (fun k => w1 (x + 28) k ((dW_681 x y hxy) k)) (w1 x 2 (dW_682 x y hxy)) (fun k => w2 (y + 2) k ((dW_683 x y hxy) k)) (w2 y 2 (dW_684 x y hxy))
  obtain ⟨hqD, hqW, hqK, hqB, hqN, hqC, hqL, hqT, hqP, hqX, hqF, hqG, hqV⟩ := hQ
  obtain ⟨aD, aW, aKD, aKW, aB, aN, aC, aL, aT, aP, aX, aKP, aKX⟩ := zz_aX A
  obtain ⟨bD, bW, bKD, bKW, bB, bN, bC, bL, bT, bP, bX, bKP, bKX⟩ := zz_bM hR.2.1 B
  obtain ⟨aF, aKF, aV, aKV⟩ := zy_aX2 A
  obtain ⟨bF, bKF, bV, bKV⟩ := zy_bM2 B
  have rD : zz_DX σ2 (x + 1) = zz_DM σ2 (y + 1) := by rw [aD, zz_DXk (r := x + 1) w1 (dW_686 x y hxy), zz_DMk (a := y + 1) w2 (dW_687 x y hxy), bD, hqD]
  have rW : zz_PX 0 σ2 (x + 1) = zz_PM 0 σ2 (y + 1) := by rw [aW, zz_PXk (f := 0) (r := x + 1) w1 (dW_688 x y hxy), zz_PMk (f := 0) (a := y + 1) w2 (dW_689 x y hxy), bW, hqW]
  have rB : zz_HX 0 σ2 x = zz_HM σ2 (y + 4) := by rw [aB, zz_HX.eq (f := 0) (x := x) (fun j hj => w1 _ _ ((dW_690 x y hxy) j hj)), zz_HM.eq (a := y + 4) (fun j hj => w2 _ _ ((dW_691 x y hxy) j hj)), bB, hqB]
  have rN : zz_HX 1 σ2 x = zz_HM σ2 (y + 5) := by rw [aN, zz_HX.eq (f := 1) (x := x) (fun j hj => w1 _ _ ((dW_690 x y hxy) j hj)), zz_HM.eq (a := y + 5) (fun j hj => w2 _ _ ((dW_692 x y hxy) j hj)), bN, hqN]
  have rL : (σ2 (x + 56) 1).toInt = (σ2 y 18).toInt := by rw [aL, congrArg Int32.toInt (w1 (x + 56) 1 (dW_693 x y hxy)), congrArg Int32.toInt (w2 y 18 (dW_684 x y hxy)), bL, hqL]
  have rT : zz_TV σ2 (x + 56 + 1) = zz_TV σ2 (y + 12) := by rw [aT, zz_TV.eq (a := x + 56 + 1) (b := x + 56 + 1) (fun k _ => w1 _ k ((dW_694 x y hxy) k)), zz_TV.eq (a := y + 12) (b := y + 12) (fun k _ => w2 _ k ((dW_695 x y hxy) k)), bT, hqT]
  have rP : zz_Tp σ2 (x + 1 + 4) (σ2 (x + 1) 9).toInt = zz_Tm σ2 (y + 1) := by rw [aP, zz_Tp.all (a := x + 1 + 4) (b := x + 1 + 4) (congrArg Int32.toInt (w1 (x + 1) 9 (dW_696 x y hxy))) (fun k => w1 _ k ((dW_697 x y hxy) k)), zz_Tm.eq (a := y + 1) (b := y + 1) (w2 (y + 1) 5 (dW_698 x y hxy)) hJ1.1.2.2.2.2.1.2 (fun k hk => w2 (y + 1) (73 + k) ((dW_699 x y hxy) k hk)), bP, hqP]
  have rX : zz_tts (zz_XT σ2 (x + 1)) (zz_MT σ2 (y + 1)) := by rw [aX, zz_XT.all (r := x + 1) (fun a ha k => w1 a k ((dW_700 x y hxy) a ha k)), zz_MT.hi (a := y + 1) (b := y + 1) (fun k hk => w2 (y + 1) k ((dW_701 x y hxy) k hk)), bX]; exact hqX
  have rF : zz_PX 1 σ2 (x + 1) = zz_PM 1 σ2 (y + 1) := by rw [aF, zz_PXk (f := 1) (r := x + 1) w1 (dW_688 x y hxy), zz_PMk (f := 1) (a := y + 1) w2 (dW_689 x y hxy), bF, hqF]
  have rV : zy_wv σ2 (x + 1 + 5) 0 (σ2 (x + 1) 11).toInt = zy_wv σ2 (y + 1) 133 (σ2 (y + 1) 6).toInt := by rw [aV, zy_wv.eq (a := x + 1 + 5) (a1 := x + 1 + 5) (b := 0) (b1 := 0) (congrArg Int32.toInt (w1 (x + 1) 11 (dW_696 x y hxy))) (fun k hk => w1 (x + 1 + 5) (0 + k) ((dW_702 x y hxy) k hk)), zy_wv.eq (a := y + 1) (a1 := y + 1) (b := 133) (b1 := 133) (congrArg Int32.toInt (w2 (y + 1) 6 (dW_698 x y hxy))) (fun k hk => w2 (y + 1) (133 + k) ((dW_703 x y hxy) k hk)), bV, hqV]
  have rG : zy_FB (zz_PM 1 σ2 (y + 1)) := by rw [zz_PMk (f := 1) (a := y + 1) w2 (dW_689 x y hxy), bF]; exact hqG
  have rK : (σ2 x 2).toInt = 0 ∨ (zz_DX σ2 (x + 28) = zz_DM σ2 (y + 2) ∧ zz_PX 0 σ2 (x + 28) = zz_PM 0 σ2 (y + 2) ∧ zz_Tp σ2 (x + 28 + 4) (σ2 (x + 28) 9).toInt = zz_Tm σ2 (y + 2) ∧ zz_tts (zz_XT σ2 (x + 28)) (zz_MT σ2 (y + 2)) ∧ zz_PX 1 σ2 (x + 28) = zz_PM 1 σ2 (y + 2) ∧ zy_FB (zz_PM 1 σ2 (y + 2)) ∧ zy_wv σ2 (x + 28 + 5) 0 (σ2 (x + 28) 11).toInt = zy_wv σ2 (y + 2) 133 (σ2 (y + 2) 6).toInt) := hqK.elim (fun q => Or.inl ((congrArg Int32.toInt ((A x 2 (by omega) (by omega)).trans (w1 x 2 (dW_682 x y hxy)))).trans q)) (fun q => Or.inr ⟨by rw [aKD, zz_DXk (r := x + 28) w1 (dW_704 x y hxy), zz_DMk (a := y + 2) w2 (dW_705 x y hxy), bKD, q.1], by rw [aKW, zz_PXk (f := 0) (r := x + 28) w1 (dW_706 x y hxy), zz_PMk (f := 0) (a := y + 2) w2 (dW_707 x y hxy), bKW, q.2.1], by rw [aKP, zz_Tp.all (a := x + 28 + 4) (b := x + 28 + 4) (congrArg Int32.toInt (w1 (x + 28) 9 (dW_708 x y hxy))) (fun k => w1 _ k ((dW_709 x y hxy) k)), zz_Tm.eq (a := y + 2) (b := y + 2) (w2 (y + 2) 5 (dW_710 x y hxy)) hJ1.2.1.2.2.2.2.1.2 (fun k hk => w2 (y + 2) (73 + k) ((dW_711 x y hxy) k hk)), bKP, q.2.2.1], by rw [aKX, zz_XT.all (r := x + 28) (fun a ha k => w1 a k ((dW_712 x y hxy) a ha k)), zz_MT.hi (a := y + 2) (b := y + 2) (fun k hk => w2 (y + 2) k ((dW_713 x y hxy) k hk)), bKX]; exact q.2.2.2.1, by rw [aKF, zz_PXk (f := 1) (r := x + 28) w1 (dW_706 x y hxy), zz_PMk (f := 1) (a := y + 2) w2 (dW_707 x y hxy), bKF, q.2.2.2.2.1], by rw [zz_PMk (f := 1) (a := y + 2) w2 (dW_707 x y hxy), bKF]; exact q.2.2.2.2.2.1, by rw [aKV, zy_wv.eq (a := x + 28 + 5) (a1 := x + 28 + 5) (b := 0) (b1 := 0) (congrArg Int32.toInt (w1 (x + 28) 11 (dW_708 x y hxy))) (fun k hk => w1 (x + 28 + 5) (0 + k) ((dW_714 x y hxy) k hk)), zy_wv.eq (a := y + 2) (a1 := y + 2) (b := 133) (b1 := 133) (congrArg Int32.toInt (w2 (y + 2) 6 (dW_710 x y hxy))) (fun k hk => w2 (y + 2) (133 + k) ((dW_715 x y hxy) k hk)), bKV, q.2.2.2.2.2.2]⟩)
  have eB : zz_HX 0 σ x = zz_HM σ1 (y + 4) := hqB.trans bB.symm
  have eN : zz_HX 1 σ x = zz_HM σ1 (y + 5) := hqN.trans bN.symm
  have eC : zz_CX σ x = zz_CM σ1 (y + 6) := hqC.trans bC.symm
  have eW : zz_PX 0 σ (x + 1) = zz_PM 0 σ1 (y + 1) := hqW.trans bW.symm
  have gc6 : (σ (x + 1) 6).toInt = (σ1 (y + 1) 3).toInt := hR.2.2.1.2.2.2.2.1.trans (congrArg Int32.toInt (B (y + 1) 3 (by omega) (by omega))).symm
  simp only [eB, eN, eC, eW, gc6] at p1
  have rB2 : zz_CX σ2 x = zz_CM σ2 (y + 6) ∧ r1.toInt = r2.toInt := by
    rcases p1 with ⟨a1, a2, ea⟩ | ⟨a1, a2, a3, ea⟩ | ⟨a1, a2, a3, ea⟩ | ⟨a1, a2, a3, ea⟩ | ⟨a1, a2, a3, ea⟩
    all_goals rcases p2 with ⟨b1, b2, eb⟩ | ⟨b1, b2, b3, eb⟩ | ⟨b1, b2, b3, eb⟩ | ⟨b1, b2, b3, eb⟩ | ⟨b1, b2, b3, eb⟩
    all_goals first | (exfalso; omega) | (exact ⟨by rw [aC, ea, eb], by omega⟩)
  have rC := rB2.1
  have hQ2 : zz_RD σ2 x y := ⟨rD, rW, rK, rB, rN, rC, rL, rT, rP, rX, rF, rG, rV⟩
  refine lv_pop hx hb dL_law_1226 rfl ?_
  refine lv_goto (tgt := 1384) hx hb dL_law_1227 (by decide) ?_
  exact kk _ _ _ hRL hQ2 hP hS
