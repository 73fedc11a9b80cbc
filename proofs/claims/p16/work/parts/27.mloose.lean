theorem gX9_sleeps_X9_draw : GoodIn wzX9_sleeps (wsV RX9 183 RX9 yX9_draw wzX9_draw) := wz_co bm_619 (wz_co bm_620 (wz_co bm_621 (wz_co bm_5 (wz_in bm_622))))
theorem gX9_sleeps_X9_comes : GoodIn wzX9_sleeps (wsV RX9 98 RX9 yX9_comes wzX9_comes) := wz_co bm_151 (wz_co bm_152 (wz_co bm_153 (wz_co bm_5 (wz_in bm_154))))
theorem dS27_1 (x0 : Nat) : ∀ a k : Nat, (a = (x0) + 1 ∧ k = 1) → (a = x0 + 1 ∧ (k = 1 ∨ k = 2 ∨ (7 ≤ k ∧ k < 61))) := by intro a k h; omega
theorem dS27_2 (x0 : Nat) : ¬ ((x0 + 1) = (x0) + 1 ∧ (2) = 1) := by omega
theorem dS27_3 (x0 : Nat) : ¬ ((x0 + 1) = (x0) + 1 ∧ (3) = 1) := by omega
theorem dS27_4 (x0 : Nat) : ¬ ((x0 + 1) = (x0) + 1 ∧ (0) = 1) := by omega
theorem dS27_5 (x0 : Nat) : ¬ ((x0 + 1) = (x0) + 1 ∧ (4) = 1) := by omega
theorem dS27_6 (x0 : Nat) : ¬ ((x0 + 1) = (x0) + 1 ∧ (5) = 1) := by omega
theorem dS27_7 (x0 : Nat) : ¬ ((x0 + 1) = (x0) + 1 ∧ (6) = 1) := by omega
theorem dS27_8 (x0 : Nat) : ∀ a k : Nat, (a = (x0) + 1 ∧ (k = 2 ∨ (7 ≤ k ∧ k < 61))) → (a = x0 + 1 ∧ (k = 1 ∨ k = 2 ∨ (7 ≤ k ∧ k < 61))) := by intro a k h; omega
theorem dS27_9 (x0 : Nat) : ¬ ((x0 + 1) = (x0) + 1 ∧ ((3) = 2 ∨ (7 ≤ (3) ∧ (3) < 61))) := by omega
theorem dS27_10 (x0 : Nat) : ¬ ((x0 + 1) = (x0) + 1 ∧ ((0) = 2 ∨ (7 ≤ (0) ∧ (0) < 61))) := by omega
theorem dS27_11 (x0 : Nat) : ¬ ((x0 + 1) = (x0) + 1 ∧ ((4) = 2 ∨ (7 ≤ (4) ∧ (4) < 61))) := by omega
theorem dS27_12 (x0 : Nat) : ¬ ((x0 + 1) = (x0) + 1 ∧ ((5) = 2 ∨ (7 ≤ (5) ∧ (5) < 61))) := by omega
theorem dS27_13 (x0 : Nat) : ¬ ((x0 + 1) = (x0) + 1 ∧ ((6) = 2 ∨ (7 ≤ (6) ∧ (6) < 61))) := by omega
theorem dS27_14 (x0 : Nat) : ¬ ((x0 + 1) = (x0) + 1 ∧ ((1) = 2 ∨ (7 ≤ (1) ∧ (1) < 61))) := by omega
set_option maxHeartbeats 4000000 in
set_option maxRecDepth 100000 in
theorem c_X9_sleeps (l : Launch) (E : zz_E) (σ : zz_S) (h0 : Nat) (g0 : zz_M E h0) (hd : 0 ≤ (σ (h0 + 1) 2).toInt ∧ (σ (h0 + 1) 2).toInt ≤ 8) (hh : 0 ≤ (σ (h0 + 1) 0).toInt ∧ (σ (h0 + 1) 0).toInt ≤ 9999) (hM : ∀ j : Nat, j < 9 → 0 ≤ (σ (h0 + 1) (8 + 6 * j)).toInt ∧ (σ (h0 + 1) (8 + 6 * j)).toInt ≤ 9) : Met l yX9_sleeps wzX9_sleeps ({ frames := 1, cells := 0, slots := 0, locals := 26 }) (va_Pc [.ref h0] (zz_B E σ)) (va_Qv (fun σ1 => zz_ch (fun a k => a = h0 + 1 ∧ (k = 1 ∨ k = 2 ∨ (7 ≤ k ∧ k < 61))) σ σ1 ∧ ((σ1 (h0 + 1) 2).toInt = (σ (h0 + 1) 2).toInt + 1 ∧ σ1 (h0 + 1) 1 = zz_z (zz_z (zz_z (σ (h0 + 1) 1))) ∧ (∀ j : Nat, j < 9 → 0 ≤ (σ1 (h0 + 1) (8 + 6 * j)).toInt ∧ (σ1 (h0 + 1) (8 + 6 * j)).toInt ≤ 9) ∧ zz_DM σ1 (h0 + 1) = zz_dn (zz_DM σ (h0 + 1)) (σ (h0 + 1) 2).toInt (zz_dv (zz_z (σ (h0 + 1) 1)) % 7) (zz_dv (zz_z (zz_z (zz_z (σ (h0 + 1) 1)))) % 20 / 2) (zz_dv (zz_z (zz_z (σ (h0 + 1) 1))) % 10) (zz_dv (zz_z (zz_z (zz_z (σ (h0 + 1) 1)))) % 20 % 2) ((σ (h0 + 1) 0).toInt / 24 + 1))) (zz_B E) (zz_A E)) 0 0 (zz_A E) := by
  refine zz_met (cc := cX9_sleeps) (maxL := 4) (ret := none) (by decide) rfl (Nat.le_of_ble_eq_true rfl) ?_
  intro p e s m args below meth c ls hx hb hr hts hown hlocks hml hK hP hS hl
  have hl : lv_has ls 4 [(0, .ref h0)] := hl
  have hown : s.vm.findClass RX9 = some m.cls := hown
  have hi9 : ∀ w ∈ wsX90, w ∈ wzX9_sleeps := fun w h => List.mem_cons_of_mem _ (hbw9 w h)
  have k_0 : (0 : Int32).toInt = 0 := by decide +kernel
  have k_1 : (1 : Int32).toInt = 1 := by decide +kernel
  have k_2 : (2 : Int32).toInt = 2 := by decide +kernel
  have k_7 : (7 : Int32).toInt = 7 := by decide +kernel
  have k_10 : (10 : Int32).toInt = 10 := by decide +kernel
  have k_20 : (20 : Int32).toInt = 20 := by decide +kernel
  have k_24 : (24 : Int32).toInt = 24 := by decide +kernel
  replace t0 : σ (h0 + 1) 2 = σ (h0 + 1) 2 := rfl
  replace t1 : σ (h0 + 1) 3 = σ (h0 + 1) 3 := rfl
  replace t2 : σ (h0 + 1) 0 = σ (h0 + 1) 0 := rfl
  replace t3 : σ (h0 + 1) 4 = σ (h0 + 1) 4 := rfl
  replace t4 : σ (h0 + 1) 5 = σ (h0 + 1) 5 := rfl
  replace t5 : σ (h0 + 1) 6 = σ (h0 + 1) 6 := rfl
  replace t6 : σ (h0 + 1) 1 = σ (h0 + 1) 1 := rfl
  have hC : zz_ch (fun a k => a = h0 + 1 ∧ (k = 1 ∨ k = 2 ∨ (7 ≤ k ∧ k < 61))) σ σ := zz_ch.rf σ
  refine lv_aload_n hx hb dX9_sleeps_0 rfl (lv_at hl 0 rfl) ?_
  refine zz_callVi (As := []) (rest := []) ⟨hx, hb, hml, hown, hts⟩ hK hP hS (c_X9_draw l E σ h0 g0) (cwV 0 hts gX9_sleeps_X9_draw rfl rfl rfl (by decide +kernel) ⟨Nat.le_of_ble_eq_true rfl, Nat.le_of_ble_eq_true rfl⟩) (g0.1) rfl rfl hl.1 rfl (Nat.le_of_ble_eq_true rfl) dX9_sleeps_1 ⟨Nat.zero_le _, Nat.zero_le _⟩ (fun r1 σ1 H locs q1 hP1 hS1 => ?_)
  replace hP := hP1
  replace hS := hS1
  clear hP1 hS1
  try dsimp only at q1
  obtain ⟨w1, f1⟩ := q1
  replace hC := hC.tr (w1.mono (dS27_1 h0))
  replace t0 : σ1 (h0 + 1) 2 = σ (h0 + 1) 2 := (w1 (h0 + 1) 2 (dS27_2 h0)).trans t0
  replace t1 : σ1 (h0 + 1) 3 = σ (h0 + 1) 3 := (w1 (h0 + 1) 3 (dS27_3 h0)).trans t1
  replace t2 : σ1 (h0 + 1) 0 = σ (h0 + 1) 0 := (w1 (h0 + 1) 0 (dS27_4 h0)).trans t2
  replace t3 : σ1 (h0 + 1) 4 = σ (h0 + 1) 4 := (w1 (h0 + 1) 4 (dS27_5 h0)).trans t3
  replace t4 : σ1 (h0 + 1) 5 = σ (h0 + 1) 5 := (w1 (h0 + 1) 5 (dS27_6 h0)).trans t4
  replace t5 : σ1 (h0 + 1) 6 = σ (h0 + 1) 6 := (w1 (h0 + 1) 6 (dS27_7 h0)).trans t5
  replace t6 : σ1 (h0 + 1) 1 = zz_z (σ (h0 + 1) 1) := f1.2.1
  have g1 : r1.toInt = zz_dv (zz_z (σ (h0 + 1) 1)) := by rw [zz_dv_eq, f1.2.2]
  refine lv_bipush (v := 7) hx hb dX9_sleeps_4 (by decide) ?_
  refine lv_irem hx hb dX9_sleeps_6 (by decide) ?_
  refine lv_topi (fun n2 e2 => ?_)
  have f2 : n2.toInt = (r1).toInt % 7 := zz_remT 7 e2 (by decide) (by omega)
  refine lv_istore_n (lv' := [(1, .int n2), (0, .ref h0)]) hx hb dX9_sleeps_7 rfl hl (by decide) rfl (fun ls hl => ?_)
  refine lv_aload_n hx hb dX9_sleeps_8 rfl (lv_at hl 1 rfl) ?_
  refine zz_callVi (As := []) (rest := []) ⟨hx, hb, hml, hown, hts⟩ hK hP hS (c_X9_draw l E σ1 h0 g0) (cwV 0 hts gX9_sleeps_X9_draw rfl rfl rfl (by decide +kernel) ⟨Nat.le_of_ble_eq_true rfl, Nat.le_of_ble_eq_true rfl⟩) (g0.1) rfl rfl hl.1 rfl (Nat.le_of_ble_eq_true rfl) dX9_sleeps_9 ⟨Nat.zero_le _, Nat.zero_le _⟩ (fun r3 σ3 H locs q3 hP1 hS1 => ?_)
  replace hP := hP1
  replace hS := hS1
  clear hP1 hS1
  try dsimp only at q3
  obtain ⟨w3, f3⟩ := q3
  replace hC := hC.tr (w3.mono (dS27_1 h0))
  try simp only [t0, t1, t2, t3, t4, t5, t6] at f3
  replace t0 : σ3 (h0 + 1) 2 = σ (h0 + 1) 2 := (w3 (h0 + 1) 2 (dS27_2 h0)).trans t0
  replace t1 : σ3 (h0 + 1) 3 = σ (h0 + 1) 3 := (w3 (h0 + 1) 3 (dS27_3 h0)).trans t1
  replace t2 : σ3 (h0 + 1) 0 = σ (h0 + 1) 0 := (w3 (h0 + 1) 0 (dS27_4 h0)).trans t2
  replace t3 : σ3 (h0 + 1) 4 = σ (h0 + 1) 4 := (w3 (h0 + 1) 4 (dS27_5 h0)).trans t3
  replace t4 : σ3 (h0 + 1) 5 = σ (h0 + 1) 5 := (w3 (h0 + 1) 5 (dS27_6 h0)).trans t4
  replace t5 : σ3 (h0 + 1) 6 = σ (h0 + 1) 6 := (w3 (h0 + 1) 6 (dS27_7 h0)).trans t5
  replace t6 : σ3 (h0 + 1) 1 = zz_z (zz_z (σ (h0 + 1) 1)) := f3.2.1
  have g3 : r3.toInt = zz_dv (zz_z (zz_z (σ (h0 + 1) 1))) := by rw [zz_dv_eq, f3.2.2]
  refine lv_bipush (v := 10) hx hb dX9_sleeps_12 (by decide) ?_
  refine lv_irem hx hb dX9_sleeps_14 (by decide) ?_
  refine lv_topi (fun n4 e4 => ?_)
  have f4 : n4.toInt = (r3).toInt % 10 := zz_remT 10 e4 (by decide) (by omega)
  refine lv_istore_n (lv' := [(2, .int n4), (1, .int n2), (0, .ref h0)]) hx hb dX9_sleeps_15 rfl hl (by decide) rfl (fun ls hl => ?_)
  refine lv_aload_n hx hb dX9_sleeps_16 rfl (lv_at hl 2 rfl) ?_
  refine zz_callVi (As := []) (rest := []) ⟨hx, hb, hml, hown, hts⟩ hK hP hS (c_X9_draw l E σ3 h0 g0) (cwV 0 hts gX9_sleeps_X9_draw rfl rfl rfl (by decide +kernel) ⟨Nat.le_of_ble_eq_true rfl, Nat.le_of_ble_eq_true rfl⟩) (g0.1) rfl rfl hl.1 rfl (Nat.le_of_ble_eq_true rfl) dX9_sleeps_17 ⟨Nat.zero_le _, Nat.zero_le _⟩ (fun r5 σ5 H locs q5 hP1 hS1 => ?_)
  replace hP := hP1
  replace hS := hS1
  clear hP1 hS1
  try dsimp only at q5
  obtain ⟨w5, f5⟩ := q5
  replace hC := hC.tr (w5.mono (dS27_1 h0))
  try simp only [t0, t1, t2, t3, t4, t5, t6] at f5
  replace t0 : σ5 (h0 + 1) 2 = σ (h0 + 1) 2 := (w5 (h0 + 1) 2 (dS27_2 h0)).trans t0
  replace t1 : σ5 (h0 + 1) 3 = σ (h0 + 1) 3 := (w5 (h0 + 1) 3 (dS27_3 h0)).trans t1
  replace t2 : σ5 (h0 + 1) 0 = σ (h0 + 1) 0 := (w5 (h0 + 1) 0 (dS27_4 h0)).trans t2
  replace t3 : σ5 (h0 + 1) 4 = σ (h0 + 1) 4 := (w5 (h0 + 1) 4 (dS27_5 h0)).trans t3
  replace t4 : σ5 (h0 + 1) 5 = σ (h0 + 1) 5 := (w5 (h0 + 1) 5 (dS27_6 h0)).trans t4
  replace t5 : σ5 (h0 + 1) 6 = σ (h0 + 1) 6 := (w5 (h0 + 1) 6 (dS27_7 h0)).trans t5
  replace t6 : σ5 (h0 + 1) 1 = zz_z (zz_z (zz_z (σ (h0 + 1) 1))) := f5.2.1
  have g5 : r5.toInt = zz_dv (zz_z (zz_z (zz_z (σ (h0 + 1) 1)))) := by rw [zz_dv_eq, f5.2.2]
  refine lv_bipush (v := 20) hx hb dX9_sleeps_20 (by decide) ?_
  refine lv_irem hx hb dX9_sleeps_22 (by decide) ?_
  refine lv_topi (fun n6 e6 => ?_)
  have f6 : n6.toInt = (r5).toInt % 20 := zz_remT 20 e6 (by decide) (by omega)
  refine lv_istore_n (lv' := [(3, .int n6), (2, .int n4), (1, .int n2), (0, .ref h0)]) hx hb dX9_sleeps_23 rfl hl (by decide) rfl (fun ls hl => ?_)
  refine lv_aload_n hx hb dX9_sleeps_24 rfl (lv_at hl 3 rfl) ?_
  refine lv_bipush (v := 10) hx hb dX9_sleeps_25 (by decide) ?_
  refine lv_iload_n hx hb dX9_sleeps_27 rfl (lv_at hl 2 rfl) ?_
  refine lv_imul hx hb dX9_sleeps_28 ?_
  refine lv_topi (fun n7 e7 => ?_)
  have f7 : n7.toInt = 10 * (n2).toInt := zz_mulL 10 e7 (by decide) (by omega) (by omega)
  refine lv_iload_n hx hb dX9_sleeps_29 rfl (lv_at hl 0 rfl) ?_
  refine lv_iconst (v := 2) hx hb dX9_sleeps_30 (by decide) ?_
  refine lv_idiv hx hb dX9_sleeps_31 (by decide) ?_
  refine lv_topi (fun n8 e8 => ?_)
  have f8 : n8.toInt = (n6).toInt / 2 := zz_divT 2 e8 (by decide) (by omega)
  refine lv_iadd hx hb dX9_sleeps_32 ?_
  refine lv_topi (fun n9 e9 => ?_)
  have f9 : n9.toInt = (n7).toInt + (n8).toInt := zz_addT e9 (by omega) (by omega)
  refine lv_iload_n hx hb dX9_sleeps_33 rfl (lv_at hl 1 rfl) ?_
  refine lv_iload_n hx hb dX9_sleeps_34 rfl (lv_at hl 0 rfl) ?_
  refine lv_iconst (v := 2) hx hb dX9_sleeps_35 (by decide) ?_
  refine lv_irem hx hb dX9_sleeps_36 (by decide) ?_
  refine lv_topi (fun n10 e10 => ?_)
  have f10 : n10.toInt = (n6).toInt % 2 := zz_remT 2 e10 (by decide) (by omega)
  refine lv_aload_n hx hb dX9_sleeps_37 rfl (lv_at hl 3 rfl) ?_
  refine zz_getr hx hb hts hi9 hown hK hP (g0.1) rfl 0 (by decide) (hts (.fieldLink RX9 9 "NoonLawModel" "row" "[I") (List.mem_cons_of_mem _ bm_93)) rfl rfl dX9_sleeps_38 ?_
  refine lv_iconst (v := 0) hx hb dX9_sleeps_41 (by decide) ?_
  refine zz_ialc hx hb hK hP (g0.2.1) 0 (by decide) (by decide) t2 dX9_sleeps_42 ?_
  refine lv_bipush (v := 24) hx hb dX9_sleeps_43 (by decide) ?_
  refine lv_idiv hx hb dX9_sleeps_45 (by decide) ?_
  refine lv_topi (fun n12 e12 => ?_)
  have f12 : n12.toInt = (σ (h0 + 1) 0).toInt / 24 := zz_divT 24 e12 (by decide) (by omega)
  refine lv_iconst (v := 1) hx hb dX9_sleeps_46 (by decide) ?_
  refine lv_iadd hx hb dX9_sleeps_47 ?_
  refine lv_topi (fun n13 e13 => ?_)
  have f13 : n13.toInt = (n12).toInt + (1 : Int32).toInt := zz_addT e13 (by omega) (by omega)
  skip
  refine zz_callVi (As := [.int n9, .int n4, .int n10, .int n13]) (rest := []) ⟨hx, hb, hml, hown, hts⟩ hK hP hS (c_X9_comes l E σ5 h0 n9 n4 n10 n13 g0 (by omega) (by rw [t0]; omega) (by intro j hj; rw [w5 _ _ (by first | (dsimp only; omega) | omega), w3 _ _ (by first | (dsimp only; omega) | omega), w1 _ _ (by first | (dsimp only; omega) | omega)]; exact hM j hj)) (cwV 4 hts gX9_sleeps_X9_comes rfl rfl rfl (by decide +kernel) ⟨Nat.le_of_ble_eq_true rfl, Nat.le_of_ble_eq_true rfl⟩) (g0.1) rfl rfl hl.1 rfl (Nat.le_of_ble_eq_true rfl) dX9_sleeps_48 ⟨Nat.zero_le _, Nat.zero_le _⟩ (fun r14 σ14 H locs q14 hP1 hS1 => ?_)
  replace hP := hP1
  replace hS := hS1
  clear hP1 hS1
  try dsimp only at q14
  obtain ⟨w14, f14⟩ := q14
  replace hC := hC.tr (w14.mono (dS27_8 h0))
  try simp only [t0, t1, t2, t3, t4, t5, t6] at f14
  replace t0 : σ14 (h0 + 1) 2 = σ14 (h0 + 1) 2 := rfl
  replace t1 : σ14 (h0 + 1) 3 = σ (h0 + 1) 3 := (w14 (h0 + 1) 3 (dS27_9 h0)).trans t1
  replace t2 : σ14 (h0 + 1) 0 = σ (h0 + 1) 0 := (w14 (h0 + 1) 0 (dS27_10 h0)).trans t2
  replace t3 : σ14 (h0 + 1) 4 = σ (h0 + 1) 4 := (w14 (h0 + 1) 4 (dS27_11 h0)).trans t3
  replace t4 : σ14 (h0 + 1) 5 = σ (h0 + 1) 5 := (w14 (h0 + 1) 5 (dS27_12 h0)).trans t4
  replace t5 : σ14 (h0 + 1) 6 = σ (h0 + 1) 6 := (w14 (h0 + 1) 6 (dS27_13 h0)).trans t5
  replace t6 : σ14 (h0 + 1) 1 = zz_z (zz_z (zz_z (σ (h0 + 1) 1))) := (w14 (h0 + 1) 1 (dS27_14 h0)).trans t6
  refine lv_pop hx hb dX9_sleeps_51 rfl ?_
  exact zz_vret hx hb hr hlocks hK hP hS dX9_sleeps_52 (by exact ⟨hC, f14.2.1, t6, f14.2.2.1, by rw [f14.2.2.2, show n9.toInt / 10 = zz_dv (zz_z (σ (h0 + 1) 1)) % 7 from by omega, show n9.toInt % 10 = zz_dv (zz_z (zz_z (zz_z (σ (h0 + 1) 1)))) % 20 / 2 from by omega, show n4.toInt = zz_dv (zz_z (zz_z (σ (h0 + 1) 1))) % 10 from by omega, show n10.toInt = zz_dv (zz_z (zz_z (zz_z (σ (h0 + 1) 1)))) % 20 % 2 from by omega, show n13.toInt = (σ (h0 + 1) 0).toInt / 24 + 1 from by omega, zz_DMk (a := h0 + 1) w5 (by intro i h1 h2; first | (dsimp only; omega) | omega), zz_DMk (a := h0 + 1) w3 (by intro i h1 h2; first | (dsimp only; omega) | omega), zz_DMk (a := h0 + 1) w1 (by intro i h1 h2; first | (dsimp only; omega) | omega)]⟩)
theorem gX9_loose_X9_in : GoodIn wzX9_loose (va_wsS RX9 47 yX9_in wzX9_in) := wz_co bm_143 (wz_co bm_144 (wz_co bm_5 (wz_in bm_145)))
theorem gX9_loose_X9_error : GoodIn wzX9_loose (wsV RX9 94 RX9 yX9_error wzX9_error) := wz_co bm_146 (wz_co bm_147 (wz_co bm_148 (wz_co bm_5 (wz_in bm_149))))
theorem gX9_loose_X9_sleeps : GoodIn wzX9_loose (wsV RX9 186 RX9 yX9_sleeps wzX9_sleeps) := wz_co bm_615 (wz_co bm_616 (wz_co bm_617 (wz_co bm_5 (wz_in bm_618))))
theorem gX9_loose_X9_goes : GoodIn wzX9_loose (wsV RX9 179 RX9 yX9_goes wzX9_goes) := wz_co bm_593 (wz_co bm_594 (wz_co bm_595 (wz_co bm_5 (wz_in bm_596))))
theorem dS27_15 (x0 : Nat) : ∀ a k : Nat, (a = (x0) + 9 ∨ a = (x0) + 10 ∨ (a = (x0) + 1 ∧ (k = 0 ∨ (61 ≤ k ∧ k < 73 ∧ k % 2 = 0)))) → ((a = x0 + 3 ∨ (x0 + 7 ≤ a ∧ a ≤ x0 + 11)) ∨ (a = x0 + 1 ∧ (k = 0 ∨ k = 1 ∨ k = 2 ∨ (7 ≤ k ∧ k < 61) ∨ (61 ≤ k ∧ k < 73 ∧ k % 2 = 0)))) := by intro a k h; omega
theorem dS27_16 (x0 : Nat) : ¬ ((x0 + 1) = (x0) + 9 ∨ (x0 + 1) = (x0) + 10 ∨ ((x0 + 1) = (x0) + 1 ∧ ((2) = 0 ∨ (61 ≤ (2) ∧ (2) < 73 ∧ (2) % 2 = 0)))) := by omega
theorem dS27_17 (x0 : Nat) : ¬ ((x0 + 1) = (x0) + 9 ∨ (x0 + 1) = (x0) + 10 ∨ ((x0 + 1) = (x0) + 1 ∧ ((3) = 0 ∨ (61 ≤ (3) ∧ (3) < 73 ∧ (3) % 2 = 0)))) := by omega
theorem dS27_18 (x0 : Nat) : ¬ ((x0 + 1) = (x0) + 9 ∨ (x0 + 1) = (x0) + 10 ∨ ((x0 + 1) = (x0) + 1 ∧ ((4) = 0 ∨ (61 ≤ (4) ∧ (4) < 73 ∧ (4) % 2 = 0)))) := by omega
theorem dS27_19 (x0 : Nat) : ¬ ((x0 + 1) = (x0) + 9 ∨ (x0 + 1) = (x0) + 10 ∨ ((x0 + 1) = (x0) + 1 ∧ ((5) = 0 ∨ (61 ≤ (5) ∧ (5) < 73 ∧ (5) % 2 = 0)))) := by omega
theorem dS27_20 (x0 : Nat) : ¬ ((x0 + 1) = (x0) + 9 ∨ (x0 + 1) = (x0) + 10 ∨ ((x0 + 1) = (x0) + 1 ∧ ((6) = 0 ∨ (61 ≤ (6) ∧ (6) < 73 ∧ (6) % 2 = 0)))) := by omega
theorem dS27_21 (x0 : Nat) : ¬ ((x0 + 1) = (x0) + 9 ∨ (x0 + 1) = (x0) + 10 ∨ ((x0 + 1) = (x0) + 1 ∧ ((1) = 0 ∨ (61 ≤ (1) ∧ (1) < 73 ∧ (1) % 2 = 0)))) := by omega
theorem dS27_22 (x0 : Nat) : ∀ a k : Nat, (a = (x0) + 1 ∧ (k = 1 ∨ k = 2 ∨ (7 ≤ k ∧ k < 61))) → ((a = x0 + 3 ∨ (x0 + 7 ≤ a ∧ a ≤ x0 + 11)) ∨ (a = x0 + 1 ∧ (k = 0 ∨ k = 1 ∨ k = 2 ∨ (7 ≤ k ∧ k < 61) ∨ (61 ≤ k ∧ k < 73 ∧ k % 2 = 0)))) := by intro a k h; omega
theorem dS27_23 (x0 : Nat) : ¬ ((x0 + 1) = (x0) + 1 ∧ ((3) = 1 ∨ (3) = 2 ∨ (7 ≤ (3) ∧ (3) < 61))) := by omega
theorem dS27_24 (x0 : Nat) : ¬ ((x0 + 1) = (x0) + 1 ∧ ((0) = 1 ∨ (0) = 2 ∨ (7 ≤ (0) ∧ (0) < 61))) := by omega
theorem dS27_25 (x0 : Nat) : ¬ ((x0 + 1) = (x0) + 1 ∧ ((4) = 1 ∨ (4) = 2 ∨ (7 ≤ (4) ∧ (4) < 61))) := by omega
theorem dS27_26 (x0 : Nat) : ¬ ((x0 + 1) = (x0) + 1 ∧ ((5) = 1 ∨ (5) = 2 ∨ (7 ≤ (5) ∧ (5) < 61))) := by omega
theorem dS27_27 (x0 : Nat) : ¬ ((x0 + 1) = (x0) + 1 ∧ ((6) = 1 ∨ (6) = 2 ∨ (7 ≤ (6) ∧ (6) < 61))) := by omega
theorem dS27_28 (x0 : Nat) : ∀ a k : Nat, (a = (x0) + 3) → ((a = x0 + 3 ∨ (x0 + 7 ≤ a ∧ a ≤ x0 + 11)) ∨ (a = x0 + 1 ∧ (k = 0 ∨ k = 1 ∨ k = 2 ∨ (7 ≤ k ∧ k < 61) ∨ (61 ≤ k ∧ k < 73 ∧ k % 2 = 0)))) := by intro a k h; omega
theorem dS27_29 (x0 : Nat) : ¬ ((x0 + 1) = (x0) + 3) := by omega
set_option maxHeartbeats 4000000 in
set_option maxRecDepth 100000 in
theorem c_X9_loose (l : Launch) (E : zz_E) (σ : zz_S) (h0 : Nat) (nn : Int32) (g0 : zz_M E h0) (hJ : zz_IM σ h0) (K : zy_W) (hW : zy_YW σ (h0 + 1) K) (hFB : zy_FB (zz_PM 1 σ (h0 + 1))) : Met l yX9_loose wzX9_loose ({ frames := 10, cells := 0, slots := 0, locals := 235 }) (va_Pc [.ref h0, .int nn] (zz_B E σ)) (va_Qi (fun r σ1 => zz_ch (fun a k => (a = h0 + 3 ∨ (h0 + 7 ≤ a ∧ a ≤ h0 + 11)) ∨ (a = h0 + 1 ∧ (k = 0 ∨ k = 1 ∨ k = 2 ∨ (7 ≤ k ∧ k < 61) ∨ (61 ≤ k ∧ k < 73 ∧ k % 2 = 0)))) σ σ1 ∧ (zz_IM σ1 h0 ∧ (((nn.toInt < 1 ∨ 48 < nn.toInt) ∧ r.toInt = -1000000001 ∧ σ1 (h0 + 1) 0 = σ (h0 + 1) 0 ∧ σ1 (h0 + 1) 1 = σ (h0 + 1) 1 ∧ σ1 (h0 + 1) 2 = σ (h0 + 1) 2 ∧ zz_PM 1 σ1 (h0 + 1) = zz_PM 1 σ (h0 + 1) ∧ zz_DM σ1 (h0 + 1) = zz_DM σ (h0 + 1)) ∨ ((1 ≤ nn.toInt ∧ nn.toInt ≤ 48) ∧ 9999 < (σ (h0 + 1) 0).toInt + nn.toInt ∧ r.toInt = -1000000003 ∧ σ1 (h0 + 1) 0 = σ (h0 + 1) 0 ∧ σ1 (h0 + 1) 1 = σ (h0 + 1) 1 ∧ σ1 (h0 + 1) 2 = σ (h0 + 1) 2 ∧ zz_PM 1 σ1 (h0 + 1) = zz_PM 1 σ (h0 + 1) ∧ zz_DM σ1 (h0 + 1) = zz_DM σ (h0 + 1)) ∨ ((1 ≤ nn.toInt ∧ nn.toInt ≤ 48) ∧ (σ (h0 + 1) 0).toInt + nn.toInt ≤ 9999 ∧ r.toInt = zz_lo nn.toInt.toNat (σ (h0 + 1) 0).toInt (σ (h0 + 1) 4).toInt (σ (h0 + 1) 2).toInt ∧ (σ1 (h0 + 1) 0).toInt = (σ (h0 + 1) 0).toInt + nn.toInt ∧ (σ1 (h0 + 1) 2).toInt = zz_lo nn.toInt.toNat (σ (h0 + 1) 0).toInt (σ (h0 + 1) 4).toInt (σ (h0 + 1) 2).toInt ∧ σ1 (h0 + 1) 1 = zz_lz nn.toInt.toNat (σ (h0 + 1) 0).toInt (σ (h0 + 1) 4).toInt (σ (h0 + 1) 2).toInt (σ (h0 + 1) 1) ∧ zz_PM 1 σ1 (h0 + 1) = zy_lf K.1 (σ (h0 + 1) 4).toInt (σ (h0 + 1) 3).toInt (zz_PM 0 σ (h0 + 1)) nn.toInt.toNat (σ (h0 + 1) 0).toInt (σ (h0 + 1) 2).toInt (σ (h0 + 1) 1) (zz_DM σ (h0 + 1)) (zz_PM 1 σ (h0 + 1)) ∧ zz_DM σ1 (h0 + 1) = zz_ld nn.toInt.toNat (σ (h0 + 1) 0).toInt (σ (h0 + 1) 4).toInt (σ (h0 + 1) 2).toInt (σ (h0 + 1) 1) (zz_DM σ (h0 + 1)))))) (zz_B E) (zz_A E)) 0 0 (zz_A E) := by
  refine zz_met (cc := cX9_loose) (maxL := 4) (ret := (some .int)) (by decide) rfl (Nat.le_of_ble_eq_true rfl) ?_
  intro p e s m args below meth c ls hx hb hr hts hown hlocks hml hK hP hS hl
  have hl : lv_has ls 4 [(0, .ref h0), (1, .int nn)] := hl
  have hown : s.vm.findClass RX9 = some m.cls := hown
  have hi9 : ∀ w ∈ wsX90, w ∈ wzX9_loose := fun w h => List.mem_cons_of_mem _ (hbw9 w h)
  have k_m1000000003 : ((-1000000003) : Int32).toInt = -1000000003 := by decide +kernel
  have k_m1000000001 : ((-1000000001) : Int32).toInt = -1000000001 := by decide +kernel
  have k_0 : (0 : Int32).toInt = 0 := by decide +kernel
  have k_1 : (1 : Int32).toInt = 1 := by decide +kernel
  have k_2 : (2 : Int32).toInt = 2 := by decide +kernel
  have k_4 : (4 : Int32).toInt = 4 := by decide +kernel
  have k_9 : (9 : Int32).toInt = 9 := by decide +kernel
  have k_24 : (24 : Int32).toInt = 24 := by decide +kernel
  have k_48 : (48 : Int32).toInt = 48 := by decide +kernel
  have k_99 : (99 : Int32).toInt = 99 := by decide +kernel
  have k_9999 : (9999 : Int32).toInt = 9999 := by decide +kernel
  replace t0 : σ (h0 + 1) 2 = σ (h0 + 1) 2 := rfl
  replace t1 : σ (h0 + 1) 3 = σ (h0 + 1) 3 := rfl
  replace t2 : σ (h0 + 1) 0 = σ (h0 + 1) 0 := rfl
  replace t3 : σ (h0 + 1) 4 = σ (h0 + 1) 4 := rfl
  replace t4 : σ (h0 + 1) 5 = σ (h0 + 1) 5 := rfl
  replace t5 : σ (h0 + 1) 6 = σ (h0 + 1) 6 := rfl
  replace t6 : σ (h0 + 1) 1 = σ (h0 + 1) 1 := rfl
  have hC : zz_ch (fun a k => (a = h0 + 3 ∨ (h0 + 7 ≤ a ∧ a ≤ h0 + 11)) ∨ (a = h0 + 1 ∧ (k = 0 ∨ k = 1 ∨ k = 2 ∨ (7 ≤ k ∧ k < 61) ∨ (61 ≤ k ∧ k < 73 ∧ k % 2 = 0)))) σ σ := zz_ch.rf σ
  have hI := hJ.1
  obtain ⟨hh, hsl, hd, hp, htc, hwc, hM, hT⟩ := id hI
  have hz5 := hJ.2.2.1
  have htr := hJ.2.2.2
  have hct := hW.2.1
  obtain ⟨FX, hFX⟩ : ∃ X : Nat → Int, zy_lf K.1 (σ (h0 + 1) 4).toInt (σ (h0 + 1) 3).toInt (zz_PM 0 σ (h0 + 1)) nn.toInt.toNat (σ (h0 + 1) 0).toInt (σ (h0 + 1) 2).toInt (σ (h0 + 1) 1) (zz_DM σ (h0 + 1)) (zz_PM 1 σ (h0 + 1)) = X := ⟨_, rfl⟩
  refine lv_iload_n hx hb dX9_loose_0 rfl (lv_at hl 1 rfl) ?_
  refine lv_iconst (v := 1) hx hb dX9_loose_1 (by decide) ?_
  refine lv_bipush (v := 48) hx hb dX9_loose_2 (by decide) ?_
  refine zz_callSp (As := [.int nn, .int 1, .int 48]) (rest := []) ⟨hx, hb, hml, hown, hts⟩ hK hP hS (c_X9_in l E σ nn 1 48) (va_cwS 3 hts gX9_loose_X9_in rfl rfl rfl (by decide +kernel) ⟨Nat.le_of_ble_eq_true rfl, Nat.le_of_ble_eq_true rfl⟩) rfl hl.1 rfl (Nat.le_of_ble_eq_true rfl) dX9_loose_4 ⟨Nat.zero_le _, Nat.zero_le _⟩ (fun r1 H locs f1 hP1 hS1 => ?_)
  replace hP := hP1
  replace hS := hS1
  clear hP1 hS1
  refine lv_if_ne (tgt := 17) hx hb dX9_loose_7 (by decide) (fun c2 => ?_) (fun c2 => ?_)
  · have c2 := zz_neT c2
    refine lv_aload_n hx hb dX9_loose_17 rfl (lv_at hl 0 rfl) ?_
    refine zz_getr hx hb hts hi9 hown hK hP (g0.1) rfl 0 (by decide) (hts (.fieldLink RX9 9 "NoonLawModel" "row" "[I") (List.mem_cons_of_mem _ bm_93)) rfl rfl dX9_loose_18 ?_
    refine lv_iconst (v := 0) hx hb dX9_loose_21 (by decide) ?_
    refine zz_ialc hx hb hK hP (g0.2.1) 0 (by decide) (by decide) t2 dX9_loose_22 ?_
    refine lv_iload_n hx hb dX9_loose_23 rfl (lv_at hl 1 rfl) ?_
    refine lv_iadd hx hb dX9_loose_24 ?_
    refine lv_topi (fun n4 e4 => ?_)
    have f4 : n4.toInt = (σ (h0 + 1) 0).toInt + (nn).toInt := zz_addT e4 (by omega) (by omega)
    refine lv_sipush (v := 9999) hx hb dX9_loose_25 (by decide) ?_
    refine lv_icmp_le (tgt := 38) hx hb dX9_loose_28 (by decide) (fun c5 => ?_) (fun c5 => ?_)
    · have c5 := zz_leT c5
      refine lv_iconst (v := 0) hx hb dX9_loose_38 (by decide) ?_
      refine lv_istore_n (lv' := [(2, .int 0), (0, .ref h0), (1, .int nn)]) hx hb dX9_loose_39 rfl hl (by decide) rfl (fun ls hl => ?_)
      have J40 : ∀ (n : Nat) (ii : Int32) (hv : Int32) (dv : Int32) (zv : Int32) (σa : zz_S) (H : Heap) (locs : List Loc) (ls : Array Slot), ((48 - ii.toInt).toNat) < n → (zz_ch (fun a k => (a = h0 + 3 ∨ (h0 + 7 ≤ a ∧ a ≤ h0 + 11)) ∨ (a = h0 + 1 ∧ (k = 0 ∨ k = 1 ∨ k = 2 ∨ (7 ≤ k ∧ k < 61) ∨ (61 ≤ k ∧ k < 73 ∧ k % 2 = 0)))) σ σa) → ((0 ≤ ii.toInt ∧ ii.toInt ≤ nn.toInt) ∧ 0 ≤ dv.toInt ∧ dv.toInt ≤ 9) → (hv.toInt = (σ (h0 + 1) 0).toInt + ii.toInt) → (zz_lo (nn.toInt.toNat - ii.toInt.toNat) hv.toInt (σ (h0 + 1) 4).toInt dv.toInt = zz_lo nn.toInt.toNat (σ (h0 + 1) 0).toInt (σ (h0 + 1) 4).toInt (σ (h0 + 1) 2).toInt) → (zz_lz (nn.toInt.toNat - ii.toInt.toNat) hv.toInt (σ (h0 + 1) 4).toInt dv.toInt zv = zz_lz nn.toInt.toNat (σ (h0 + 1) 0).toInt (σ (h0 + 1) 4).toInt (σ (h0 + 1) 2).toInt (σ (h0 + 1) 1)) → (∀ j : Nat, j < 9 → 0 ≤ (σa (h0 + 1) (8 + 6 * j)).toInt ∧ (σa (h0 + 1) (8 + 6 * j)).toInt ≤ 9) → (zz_ld (nn.toInt.toNat - ii.toInt.toNat) hv.toInt (σ (h0 + 1) 4).toInt dv.toInt zv (zz_DM σa (h0 + 1)) = zz_ld nn.toInt.toNat (σ (h0 + 1) 0).toInt (σ (h0 + 1) 4).toInt (σ (h0 + 1) 2).toInt (σ (h0 + 1) 1) (zz_DM σ (h0 + 1))) → (zz_ID (zz_DM σa (h0 + 1))) → (zy_lf K.1 (σ (h0 + 1) 4).toInt (σ (h0 + 1) 3).toInt (zz_PM 0 σ (h0 + 1)) (nn.toInt.toNat - ii.toInt.toNat) hv.toInt dv.toInt zv (zz_DM σa (h0 + 1)) (zz_PM 1 σa (h0 + 1)) = FX) → (zy_FB (zz_PM 1 σa (h0 + 1))) → (σa (h0 + 1) 2 = dv) → (σa (h0 + 1) 3 = σ (h0 + 1) 3) → (σa (h0 + 1) 0 = hv) → (σa (h0 + 1) 4 = σ (h0 + 1) 4) → (σa (h0 + 1) 5 = σ (h0 + 1) 5) → (σa (h0 + 1) 6 = σ (h0 + 1) 6) → (σa (h0 + 1) 1 = zv) → zz_P E σa H → va_S (zz_A E) s.heap H locs → lv_has ls 4 [(2, .int ii), (0, .ref h0), (1, .int nn)] → W p l e (headSpec wzX9_loose ({ frames := 10, cells := 0, slots := 0, locals := 235 })).room s m args below meth c H locs 0 0 (MQ below (va_Qi (fun r σ1 => zz_ch (fun a k => (a = h0 + 3 ∨ (h0 + 7 ≤ a ∧ a ≤ h0 + 11)) ∨ (a = h0 + 1 ∧ (k = 0 ∨ k = 1 ∨ k = 2 ∨ (7 ≤ k ∧ k < 61) ∨ (61 ≤ k ∧ k < 73 ∧ k % 2 = 0)))) σ σ1 ∧ (zz_IM σ1 h0 ∧ (((nn.toInt < 1 ∨ 48 < nn.toInt) ∧ r.toInt = -1000000001 ∧ σ1 (h0 + 1) 0 = σ (h0 + 1) 0 ∧ σ1 (h0 + 1) 1 = σ (h0 + 1) 1 ∧ σ1 (h0 + 1) 2 = σ (h0 + 1) 2 ∧ zz_PM 1 σ1 (h0 + 1) = zz_PM 1 σ (h0 + 1) ∧ zz_DM σ1 (h0 + 1) = zz_DM σ (h0 + 1)) ∨ ((1 ≤ nn.toInt ∧ nn.toInt ≤ 48) ∧ 9999 < (σ (h0 + 1) 0).toInt + nn.toInt ∧ r.toInt = -1000000003 ∧ σ1 (h0 + 1) 0 = σ (h0 + 1) 0 ∧ σ1 (h0 + 1) 1 = σ (h0 + 1) 1 ∧ σ1 (h0 + 1) 2 = σ (h0 + 1) 2 ∧ zz_PM 1 σ1 (h0 + 1) = zz_PM 1 σ (h0 + 1) ∧ zz_DM σ1 (h0 + 1) = zz_DM σ (h0 + 1)) ∨ ((1 ≤ nn.toInt ∧ nn.toInt ≤ 48) ∧ (σ (h0 + 1) 0).toInt + nn.toInt ≤ 9999 ∧ r.toInt = zz_lo nn.toInt.toNat (σ (h0 + 1) 0).toInt (σ (h0 + 1) 4).toInt (σ (h0 + 1) 2).toInt ∧ (σ1 (h0 + 1) 0).toInt = (σ (h0 + 1) 0).toInt + nn.toInt ∧ (σ1 (h0 + 1) 2).toInt = zz_lo nn.toInt.toNat (σ (h0 + 1) 0).toInt (σ (h0 + 1) 4).toInt (σ (h0 + 1) 2).toInt ∧ σ1 (h0 + 1) 1 = zz_lz nn.toInt.toNat (σ (h0 + 1) 0).toInt (σ (h0 + 1) 4).toInt (σ (h0 + 1) 2).toInt (σ (h0 + 1) 1) ∧ zz_PM 1 σ1 (h0 + 1) = zy_lf K.1 (σ (h0 + 1) 4).toInt (σ (h0 + 1) 3).toInt (zz_PM 0 σ (h0 + 1)) nn.toInt.toNat (σ (h0 + 1) 0).toInt (σ (h0 + 1) 2).toInt (σ (h0 + 1) 1) (zz_DM σ (h0 + 1)) (zz_PM 1 σ (h0 + 1)) ∧ zz_DM σ1 (h0 + 1) = zz_ld nn.toInt.toNat (σ (h0 + 1) 0).toInt (σ (h0 + 1) 4).toInt (σ (h0 + 1) 2).toInt (σ (h0 + 1) 1) (zz_DM σ (h0 + 1)))))) (zz_B E) (zz_A E)) args s 0 0 (zz_A E)) (F0 m 40 ls []) := by
        intro n
        induction n with
        | zero => intro ii hv dv zv σa H locs ls hm; exact absurd hm (Nat.not_lt_zero _)
        | succ n ih40 =>
          intro ii hv dv zv σa H locs ls hm hC f40_0 f40_1 f40_2 f40_3 f40_4 f40_5 f40_6 f40_7 f40_8 t0 t1 t2 t3 t4 t5 t6 hP hS hl
          have hV0 := zz_PMk (f := 0) (a := h0 + 1) hC (by intro i hi; first | (dsimp only; omega) | omega)
          refine lv_iload_n hx hb dX9_loose_40 rfl (lv_at hl 0 rfl) ?_
          refine lv_iload_n hx hb dX9_loose_41 rfl (lv_at hl 2 rfl) ?_
          refine lv_icmp_ge (tgt := 102) hx hb dX9_loose_42 (by decide) (fun c6 => ?_) (fun c6 => ?_)
          · have c6 := zz_leT c6
            refine lv_aload_n hx hb dX9_loose_102 rfl (lv_at hl 1 rfl) ?_
            refine zz_getr hx hb hts hi9 hown hK hP (g0.1) rfl 0 (by decide) (hts (.fieldLink RX9 9 "NoonLawModel" "row" "[I") (List.mem_cons_of_mem _ bm_93)) rfl rfl dX9_loose_103 ?_
            refine lv_iconst (v := 2) hx hb dX9_loose_106 (by decide) ?_
            refine zz_ialc hx hb hK hP (g0.2.1) 2 (by decide) (by decide) t0 dX9_loose_107 ?_
            exact zz_iret hx hb hr hlocks hK hP hS dX9_loose_108 (by have hz0 : nn.toInt.toNat - ii.toInt.toNat = 0 := (by omega); rw [hz0] at f40_2 f40_3 f40_7; rw [hz0, zz_ld_0] at f40_5; exact ⟨hC, (hJ.row (hI.scal (fun k hk => hC _ _ (by first | (dsimp only; omega) | omega)) f40_4 (by rw [t2]; omega) (by rw [t3]; omega) (by rw [t0]; omega) (by rw [t1]; omega) (by rw [t4]; omega) (by rw [t5]; omega)) (hC.mono (by intro a k h; first | (dsimp only at h ⊢; omega) | omega))), Or.inr (Or.inr ⟨by omega, by omega, f40_2, by rw [t2]; omega, by rw [t0]; exact f40_2, t6.trans f40_3, (zy_lf_0 f40_7 rfl).trans hFX.symm, f40_5⟩)⟩)
          · have c6 := zz_nleT c6
            refine lv_aload_n hx hb dX9_loose_45 rfl (lv_at hl 1 rfl) ?_
            refine zz_getr hx hb hts hi9 hown hK hP (g0.1) rfl 0 (by decide) (hts (.fieldLink RX9 9 "NoonLawModel" "row" "[I") (List.mem_cons_of_mem _ bm_93)) rfl rfl dX9_loose_46 ?_
            refine lv_iconst (v := 0) hx hb dX9_loose_49 (by decide) ?_
            refine zz_ialc hx hb hK hP (g0.2.1) 0 (by decide) (by decide) t2 dX9_loose_50 ?_
            refine lv_istore_n (lv' := [(3, .int hv), (2, .int ii), (0, .ref h0), (1, .int nn)]) hx hb dX9_loose_51 rfl hl (by decide) rfl (fun ls hl => ?_)
            refine lv_iload_n hx hb dX9_loose_52 rfl (lv_at hl 0 rfl) ?_
            refine lv_bipush (v := 24) hx hb dX9_loose_53 (by decide) ?_
            refine lv_irem hx hb dX9_loose_55 (by decide) ?_
            refine lv_topi (fun n9 e9 => ?_)
            have f9 : n9.toInt = (hv).toInt % 24 := zz_remT 24 e9 (by decide) (by omega)
            refine lv_aload_n hx hb dX9_loose_56 rfl (lv_at hl 2 rfl) ?_
            refine zz_getr hx hb hts hi9 hown hK hP (g0.1) rfl 0 (by decide) (hts (.fieldLink RX9 9 "NoonLawModel" "row" "[I") (List.mem_cons_of_mem _ bm_93)) rfl rfl dX9_loose_57 ?_
            refine lv_iconst (v := 4) hx hb dX9_loose_60 (by decide) ?_
            refine zz_ialc hx hb hK hP (g0.2.1) 4 (by decide) (by decide) t3 dX9_loose_61 ?_
            refine lv_bipush (v := 24) hx hb dX9_loose_62 (by decide) ?_
            refine lv_irem hx hb dX9_loose_64 (by decide) ?_
            refine lv_topi (fun n11 e11 => ?_)
            have f11 : n11.toInt = (σ (h0 + 1) 4).toInt % 24 := zz_remT 24 e11 (by decide) (by omega)
            refine lv_icmp_ne (tgt := 92) hx hb dX9_loose_65 (by decide) (fun c12 => ?_) (fun c12 => ?_)
            · have c12 := zz_neT c12
              have hid9 : zz_ID (zz_DM σa (h0 + 1)) := f40_6
              have hK9 := hW.now (σ1 := σa) (zz_MT.hi (fun k hk => hC _ _ (by first | (dsimp only; omega) | omega))) hid9 (by first | omega | (rw [t0]; omega)) (by rw [t3]; omega)
              have hF0 : zz_PM 1 σa (h0 + 1) = zz_PM 1 σa (h0 + 1) := rfl
              have hV9 := hV0
              refine lv_aload_n hx hb dX9_loose_92 rfl (lv_at hl 2 rfl) ?_
              refine zz_callVv (As := []) (rest := []) ⟨hx, hb, hml, hown, hts⟩ hK hP hS (c_X9_goes l E σa h0 g0 (by exact hI.scal (fun k hk => hC _ _ (by first | (dsimp only; omega) | omega)) f40_4 (by rw [t2]; omega) (by rw [t3]; omega) (by rw [t0]; omega) (by rw [t1]; omega) (by rw [t4]; omega) (by rw [t5]; omega)) (K.1, zz_DM σa (h0 + 1), (σa (h0 + 1) 2).toInt, (σa (h0 + 1) 4).toInt) (by exact hK9) (by rw [hF0]; exact f40_8)) (cwV 0 hts gX9_loose_X9_goes rfl rfl rfl (by decide +kernel) ⟨Nat.le_of_ble_eq_true rfl, Nat.le_of_ble_eq_true rfl⟩) (g0.1) rfl rfl hl.1 rfl (Nat.le_of_ble_eq_true rfl) dX9_loose_93 ⟨Nat.zero_le _, Nat.zero_le _⟩ (fun σ13 H locs q13 hP1 hS1 => ?_)
              replace hP := hP1
              replace hS := hS1
              clear hP1 hS1
              try dsimp only at q13
              obtain ⟨w13, f13⟩ := q13
              replace hC := hC.tr (w13.mono (dS27_15 h0))
              try simp only [t0, t1, t2, t3, t4, t5, t6] at f13
              replace t0 : σ13 (h0 + 1) 2 = dv := (w13 (h0 + 1) 2 (dS27_16 h0)).trans t0
              replace t1 : σ13 (h0 + 1) 3 = σ (h0 + 1) 3 := (w13 (h0 + 1) 3 (dS27_17 h0)).trans t1
              replace t2 : σ13 (h0 + 1) 0 = σ13 (h0 + 1) 0 := rfl
              replace t3 : σ13 (h0 + 1) 4 = σ (h0 + 1) 4 := (w13 (h0 + 1) 4 (dS27_18 h0)).trans t3
              replace t4 : σ13 (h0 + 1) 5 = σ (h0 + 1) 5 := (w13 (h0 + 1) 5 (dS27_19 h0)).trans t4
              replace t5 : σ13 (h0 + 1) 6 = σ (h0 + 1) 6 := (w13 (h0 + 1) 6 (dS27_20 h0)).trans t5
              replace t6 : σ13 (h0 + 1) 1 = zv := (w13 (h0 + 1) 1 (dS27_21 h0)).trans t6
              obtain ⟨n14, e14⟩ : ∃ y : Int32, y = ii + 1 := ⟨_, rfl⟩
              have f14 : n14.toInt = (ii).toInt + (1) := by have h9 := zz_addT e14 (by omega) (by omega); omega
              refine lv_iinc (v := n14) (lv' := [(2, .int n14), (3, .int hv), (0, .ref h0), (1, .int nn)]) hx hb dX9_loose_96 hl (k := 1) rfl (by rw [e14]; rfl) (by decide) rfl (fun ls hl => ?_)
              refine lv_goto (tgt := 40) hx hb dX9_loose_99 (by decide) ?_
              exact ih40 n14 (σ13 (h0 + 1) 0) dv zv σ13 _ _ _ (by omega) hC (by first | omega | exact hI | exact hT) (by first | omega | exact hI | exact hT) (by have hm : nn.toInt.toNat - ii.toInt.toNat = (nn.toInt.toNat - n14.toInt.toNat) + 1 := (by omega); rw [hm, zz_lo] at f40_2; rw [f13.1]; rw [if_neg (by omega)] at f40_2; exact f40_2) (by have hm : nn.toInt.toNat - ii.toInt.toNat = (nn.toInt.toNat - n14.toInt.toNat) + 1 := (by omega); rw [hm, zz_lz] at f40_3; rw [f13.1]; rw [if_neg (by omega)] at f40_3; exact f40_3) (by intro j hj; rw [w13 _ _ (by first | (dsimp only; omega) | omega)]; exact f40_4 j hj) (by have hm : nn.toInt.toNat - ii.toInt.toNat = (nn.toInt.toNat - n14.toInt.toNat) + 1 := (by omega); rw [hm, zz_ld_s] at f40_5; rw [f13.1, zz_DMk (a := h0 + 1) w13 (by intro i h1 h2; first | (dsimp only; omega) | omega)]; rw [if_neg (by omega)] at f40_5; exact f40_5) (by rw [zz_DMk (a := h0 + 1) w13 (by intro i h1 h2; first | (dsimp only; omega) | omega)]; exact hid9) (by rw [zz_DMk (a := h0 + 1) w13 (by intro i h1 h2; first | (dsimp only; omega) | omega), f13.2, hF0, hV9]; exact zy_lf_n f40_7 (by omega) f13.1 (by omega) rfl rfl rfl) (by rw [f13.2, hF0]; exact zy_FB.ag f40_8) t0 t1 t2 t3 t4 t5 t6 hP hS (lv_sub hl [0, 2, 3] rfl)
            · have c12 := zz_eqT c12
              refine lv_aload_n hx hb dX9_loose_68 rfl (lv_at hl 2 rfl) ?_
              refine zz_getr hx hb hts hi9 hown hK hP (g0.1) rfl 0 (by decide) (hts (.fieldLink RX9 9 "NoonLawModel" "row" "[I") (List.mem_cons_of_mem _ bm_93)) rfl rfl dX9_loose_69 ?_
              refine lv_iconst (v := 2) hx hb dX9_loose_72 (by decide) ?_
              refine zz_ialc hx hb hK hP (g0.2.1) 2 (by decide) (by decide) t0 dX9_loose_73 ?_
              refine lv_bipush (v := 9) hx hb dX9_loose_74 (by decide) ?_
              refine lv_icmp_ge (tgt := 92) hx hb dX9_loose_76 (by decide) (fun c16 => ?_) (fun c16 => ?_)
              · have c16 := zz_leT c16
                have hid9 : zz_ID (zz_DM σa (h0 + 1)) := f40_6
                have hK9 := hW.now (σ1 := σa) (zz_MT.hi (fun k hk => hC _ _ (by first | (dsimp only; omega) | omega))) hid9 (by first | omega | (rw [t0]; omega)) (by rw [t3]; omega)
                have hF0 : zz_PM 1 σa (h0 + 1) = zz_PM 1 σa (h0 + 1) := rfl
                have hV9 := hV0
                refine lv_aload_n hx hb dX9_loose_92 rfl (lv_at hl 2 rfl) ?_
                refine zz_callVv (As := []) (rest := []) ⟨hx, hb, hml, hown, hts⟩ hK hP hS (c_X9_goes l E σa h0 g0 (by exact hI.scal (fun k hk => hC _ _ (by first | (dsimp only; omega) | omega)) f40_4 (by rw [t2]; omega) (by rw [t3]; omega) (by rw [t0]; omega) (by rw [t1]; omega) (by rw [t4]; omega) (by rw [t5]; omega)) (K.1, zz_DM σa (h0 + 1), (σa (h0 + 1) 2).toInt, (σa (h0 + 1) 4).toInt) (by exact hK9) (by rw [hF0]; exact f40_8)) (cwV 0 hts gX9_loose_X9_goes rfl rfl rfl (by decide +kernel) ⟨Nat.le_of_ble_eq_true rfl, Nat.le_of_ble_eq_true rfl⟩) (g0.1) rfl rfl hl.1 rfl (Nat.le_of_ble_eq_true rfl) dX9_loose_93 ⟨Nat.zero_le _, Nat.zero_le _⟩ (fun σ17 H locs q17 hP1 hS1 => ?_)
                replace hP := hP1
                replace hS := hS1
                clear hP1 hS1
                try dsimp only at q17
                obtain ⟨w17, f17⟩ := q17
                replace hC := hC.tr (w17.mono (dS27_15 h0))
                try simp only [t0, t1, t2, t3, t4, t5, t6] at f17
                replace t0 : σ17 (h0 + 1) 2 = dv := (w17 (h0 + 1) 2 (dS27_16 h0)).trans t0
                replace t1 : σ17 (h0 + 1) 3 = σ (h0 + 1) 3 := (w17 (h0 + 1) 3 (dS27_17 h0)).trans t1
                replace t2 : σ17 (h0 + 1) 0 = σ17 (h0 + 1) 0 := rfl
                replace t3 : σ17 (h0 + 1) 4 = σ (h0 + 1) 4 := (w17 (h0 + 1) 4 (dS27_18 h0)).trans t3
                replace t4 : σ17 (h0 + 1) 5 = σ (h0 + 1) 5 := (w17 (h0 + 1) 5 (dS27_19 h0)).trans t4
                replace t5 : σ17 (h0 + 1) 6 = σ (h0 + 1) 6 := (w17 (h0 + 1) 6 (dS27_20 h0)).trans t5
                replace t6 : σ17 (h0 + 1) 1 = zv := (w17 (h0 + 1) 1 (dS27_21 h0)).trans t6
                obtain ⟨n18, e18⟩ : ∃ y : Int32, y = ii + 1 := ⟨_, rfl⟩
                have f18 : n18.toInt = (ii).toInt + (1) := by have h9 := zz_addT e18 (by omega) (by omega); omega
                refine lv_iinc (v := n18) (lv' := [(2, .int n18), (3, .int hv), (0, .ref h0), (1, .int nn)]) hx hb dX9_loose_96 hl (k := 1) rfl (by rw [e18]; rfl) (by decide) rfl (fun ls hl => ?_)
                refine lv_goto (tgt := 40) hx hb dX9_loose_99 (by decide) ?_
                exact ih40 n18 (σ17 (h0 + 1) 0) dv zv σ17 _ _ _ (by omega) hC (by first | omega | exact hI | exact hT) (by first | omega | exact hI | exact hT) (by have hm : nn.toInt.toNat - ii.toInt.toNat = (nn.toInt.toNat - n18.toInt.toNat) + 1 := (by omega); rw [hm, zz_lo] at f40_2; rw [f17.1]; rw [if_neg (by omega)] at f40_2; exact f40_2) (by have hm : nn.toInt.toNat - ii.toInt.toNat = (nn.toInt.toNat - n18.toInt.toNat) + 1 := (by omega); rw [hm, zz_lz] at f40_3; rw [f17.1]; rw [if_neg (by omega)] at f40_3; exact f40_3) (by intro j hj; rw [w17 _ _ (by first | (dsimp only; omega) | omega)]; exact f40_4 j hj) (by have hm : nn.toInt.toNat - ii.toInt.toNat = (nn.toInt.toNat - n18.toInt.toNat) + 1 := (by omega); rw [hm, zz_ld_s] at f40_5; rw [f17.1, zz_DMk (a := h0 + 1) w17 (by intro i h1 h2; first | (dsimp only; omega) | omega)]; rw [if_neg (by omega)] at f40_5; exact f40_5) (by rw [zz_DMk (a := h0 + 1) w17 (by intro i h1 h2; first | (dsimp only; omega) | omega)]; exact hid9) (by rw [zz_DMk (a := h0 + 1) w17 (by intro i h1 h2; first | (dsimp only; omega) | omega), f17.2, hF0, hV9]; exact zy_lf_n f40_7 (by omega) f17.1 (by omega) rfl rfl rfl) (by rw [f17.2, hF0]; exact zy_FB.ag f40_8) t0 t1 t2 t3 t4 t5 t6 hP hS (lv_sub hl [0, 2, 3] rfl)
              · have c16 := zz_nleT c16
                refine lv_iload_n hx hb dX9_loose_79 rfl (lv_at hl 0 rfl) ?_
                refine lv_bipush (v := 24) hx hb dX9_loose_80 (by decide) ?_
                refine lv_idiv hx hb dX9_loose_82 (by decide) ?_
                refine lv_topi (fun n19 e19 => ?_)
                have f19 : n19.toInt = (hv).toInt / 24 := zz_divT 24 e19 (by decide) (by omega)
                refine lv_bipush (v := 99) hx hb dX9_loose_83 (by decide) ?_
                refine lv_icmp_ge (tgt := 92) hx hb dX9_loose_85 (by decide) (fun c20 => ?_) (fun c20 => ?_)
                · have c20 := zz_leT c20
                  have hid9 : zz_ID (zz_DM σa (h0 + 1)) := f40_6
                  have hK9 := hW.now (σ1 := σa) (zz_MT.hi (fun k hk => hC _ _ (by first | (dsimp only; omega) | omega))) hid9 (by first | omega | (rw [t0]; omega)) (by rw [t3]; omega)
                  have hF0 : zz_PM 1 σa (h0 + 1) = zz_PM 1 σa (h0 + 1) := rfl
                  have hV9 := hV0
                  refine lv_aload_n hx hb dX9_loose_92 rfl (lv_at hl 2 rfl) ?_
                  refine zz_callVv (As := []) (rest := []) ⟨hx, hb, hml, hown, hts⟩ hK hP hS (c_X9_goes l E σa h0 g0 (by exact hI.scal (fun k hk => hC _ _ (by first | (dsimp only; omega) | omega)) f40_4 (by rw [t2]; omega) (by rw [t3]; omega) (by rw [t0]; omega) (by rw [t1]; omega) (by rw [t4]; omega) (by rw [t5]; omega)) (K.1, zz_DM σa (h0 + 1), (σa (h0 + 1) 2).toInt, (σa (h0 + 1) 4).toInt) (by exact hK9) (by rw [hF0]; exact f40_8)) (cwV 0 hts gX9_loose_X9_goes rfl rfl rfl (by decide +kernel) ⟨Nat.le_of_ble_eq_true rfl, Nat.le_of_ble_eq_true rfl⟩) (g0.1) rfl rfl hl.1 rfl (Nat.le_of_ble_eq_true rfl) dX9_loose_93 ⟨Nat.zero_le _, Nat.zero_le _⟩ (fun σ21 H locs q21 hP1 hS1 => ?_)
                  replace hP := hP1
                  replace hS := hS1
                  clear hP1 hS1
                  try dsimp only at q21
                  obtain ⟨w21, f21⟩ := q21
                  replace hC := hC.tr (w21.mono (dS27_15 h0))
                  try simp only [t0, t1, t2, t3, t4, t5, t6] at f21
                  replace t0 : σ21 (h0 + 1) 2 = dv := (w21 (h0 + 1) 2 (dS27_16 h0)).trans t0
                  replace t1 : σ21 (h0 + 1) 3 = σ (h0 + 1) 3 := (w21 (h0 + 1) 3 (dS27_17 h0)).trans t1
                  replace t2 : σ21 (h0 + 1) 0 = σ21 (h0 + 1) 0 := rfl
                  replace t3 : σ21 (h0 + 1) 4 = σ (h0 + 1) 4 := (w21 (h0 + 1) 4 (dS27_18 h0)).trans t3
                  replace t4 : σ21 (h0 + 1) 5 = σ (h0 + 1) 5 := (w21 (h0 + 1) 5 (dS27_19 h0)).trans t4
                  replace t5 : σ21 (h0 + 1) 6 = σ (h0 + 1) 6 := (w21 (h0 + 1) 6 (dS27_20 h0)).trans t5
                  replace t6 : σ21 (h0 + 1) 1 = zv := (w21 (h0 + 1) 1 (dS27_21 h0)).trans t6
                  obtain ⟨n22, e22⟩ : ∃ y : Int32, y = ii + 1 := ⟨_, rfl⟩
                  have f22 : n22.toInt = (ii).toInt + (1) := by have h9 := zz_addT e22 (by omega) (by omega); omega
                  refine lv_iinc (v := n22) (lv' := [(2, .int n22), (3, .int hv), (0, .ref h0), (1, .int nn)]) hx hb dX9_loose_96 hl (k := 1) rfl (by rw [e22]; rfl) (by decide) rfl (fun ls hl => ?_)
                  refine lv_goto (tgt := 40) hx hb dX9_loose_99 (by decide) ?_
                  exact ih40 n22 (σ21 (h0 + 1) 0) dv zv σ21 _ _ _ (by omega) hC (by first | omega | exact hI | exact hT) (by first | omega | exact hI | exact hT) (by have hm : nn.toInt.toNat - ii.toInt.toNat = (nn.toInt.toNat - n22.toInt.toNat) + 1 := (by omega); rw [hm, zz_lo] at f40_2; rw [f21.1]; rw [if_neg (by omega)] at f40_2; exact f40_2) (by have hm : nn.toInt.toNat - ii.toInt.toNat = (nn.toInt.toNat - n22.toInt.toNat) + 1 := (by omega); rw [hm, zz_lz] at f40_3; rw [f21.1]; rw [if_neg (by omega)] at f40_3; exact f40_3) (by intro j hj; rw [w21 _ _ (by first | (dsimp only; omega) | omega)]; exact f40_4 j hj) (by have hm : nn.toInt.toNat - ii.toInt.toNat = (nn.toInt.toNat - n22.toInt.toNat) + 1 := (by omega); rw [hm, zz_ld_s] at f40_5; rw [f21.1, zz_DMk (a := h0 + 1) w21 (by intro i h1 h2; first | (dsimp only; omega) | omega)]; rw [if_neg (by omega)] at f40_5; exact f40_5) (by rw [zz_DMk (a := h0 + 1) w21 (by intro i h1 h2; first | (dsimp only; omega) | omega)]; exact hid9) (by rw [zz_DMk (a := h0 + 1) w21 (by intro i h1 h2; first | (dsimp only; omega) | omega), f21.2, hF0, hV9]; exact zy_lf_n f40_7 (by omega) f21.1 (by omega) rfl rfl rfl) (by rw [f21.2, hF0]; exact zy_FB.ag f40_8) t0 t1 t2 t3 t4 t5 t6 hP hS (lv_sub hl [0, 2, 3] rfl)
                · have c20 := zz_nleT c20
                  refine lv_aload_n hx hb dX9_loose_88 rfl (lv_at hl 2 rfl) ?_
                  refine zz_callVv (As := []) (rest := []) ⟨hx, hb, hml, hown, hts⟩ hK hP hS (c_X9_sleeps l E σa h0 g0 (by rw [t0]; omega) (by rw [t2]; omega) (by exact f40_4)) (cwV 0 hts gX9_loose_X9_sleeps rfl rfl rfl (by decide +kernel) ⟨Nat.le_of_ble_eq_true rfl, Nat.le_of_ble_eq_true rfl⟩) (g0.1) rfl rfl hl.1 rfl (Nat.le_of_ble_eq_true rfl) dX9_loose_89 ⟨Nat.zero_le _, Nat.zero_le _⟩ (fun σ23 H locs q23 hP1 hS1 => ?_)
                  replace hP := hP1
                  replace hS := hS1
                  clear hP1 hS1
                  try dsimp only at q23
                  obtain ⟨w23, f23⟩ := q23
                  replace hC := hC.tr (w23.mono (dS27_22 h0))
                  try simp only [t0, t1, t2, t3, t4, t5, t6] at f23
                  replace t0 : σ23 (h0 + 1) 2 = σ23 (h0 + 1) 2 := rfl
                  replace t1 : σ23 (h0 + 1) 3 = σ (h0 + 1) 3 := (w23 (h0 + 1) 3 (dS27_23 h0)).trans t1
                  replace t2 : σ23 (h0 + 1) 0 = hv := (w23 (h0 + 1) 0 (dS27_24 h0)).trans t2
                  replace t3 : σ23 (h0 + 1) 4 = σ (h0 + 1) 4 := (w23 (h0 + 1) 4 (dS27_25 h0)).trans t3
                  replace t4 : σ23 (h0 + 1) 5 = σ (h0 + 1) 5 := (w23 (h0 + 1) 5 (dS27_26 h0)).trans t4
                  replace t5 : σ23 (h0 + 1) 6 = σ (h0 + 1) 6 := (w23 (h0 + 1) 6 (dS27_27 h0)).trans t5
                  replace t6 : σ23 (h0 + 1) 1 = σ23 (h0 + 1) 1 := rfl
                  have hid9 : zz_ID (zz_DM σ23 (h0 + 1)) := by rw [f23.2.2.2]; exact zz_dnB f40_6 (by omega)
                  have hK9 := hW.now (σ1 := σ23) (zz_MT.hi (fun k hk => hC _ _ (by first | (dsimp only; omega) | omega))) hid9 (by first | omega | (rw [t0]; omega)) (by rw [t3]; omega)
                  have hF0 := zz_PMk (f := 1) (a := h0 + 1) w23 (by intro i hi; first | (dsimp only; omega) | omega)
                  have hV9 := (zz_PMk (f := 0) (a := h0 + 1) w23 (by intro i hi; first | (dsimp only; omega) | omega)).trans hV0
                  refine lv_aload_n hx hb dX9_loose_92 rfl (lv_at hl 2 rfl) ?_
                  refine zz_callVv (As := []) (rest := []) ⟨hx, hb, hml, hown, hts⟩ hK hP hS (c_X9_goes l E σ23 h0 g0 (by exact hI.scal (fun k hk => hC _ _ (by first | (dsimp only; omega) | omega)) f23.2.2.1 (by rw [t2]; omega) (by rw [t3]; omega) (by rw [t0]; omega) (by rw [t1]; omega) (by rw [t4]; omega) (by rw [t5]; omega)) (K.1, zz_DM σ23 (h0 + 1), (σ23 (h0 + 1) 2).toInt, (σ23 (h0 + 1) 4).toInt) (by exact hK9) (by rw [hF0]; exact f40_8)) (cwV 0 hts gX9_loose_X9_goes rfl rfl rfl (by decide +kernel) ⟨Nat.le_of_ble_eq_true rfl, Nat.le_of_ble_eq_true rfl⟩) (g0.1) rfl rfl hl.1 rfl (Nat.le_of_ble_eq_true rfl) dX9_loose_93 ⟨Nat.zero_le _, Nat.zero_le _⟩ (fun σ24 H locs q24 hP1 hS1 => ?_)
                  replace hP := hP1
                  replace hS := hS1
                  clear hP1 hS1
                  try dsimp only at q24
                  obtain ⟨w24, f24⟩ := q24
                  replace hC := hC.tr (w24.mono (dS27_15 h0))
                  try simp only [t1, t2, t3, t4, t5] at f24
                  replace t0 : σ24 (h0 + 1) 2 = σ23 (h0 + 1) 2 := (w24 (h0 + 1) 2 (dS27_16 h0)).trans t0
                  replace t1 : σ24 (h0 + 1) 3 = σ (h0 + 1) 3 := (w24 (h0 + 1) 3 (dS27_17 h0)).trans t1
                  replace t2 : σ24 (h0 + 1) 0 = σ24 (h0 + 1) 0 := rfl
                  replace t3 : σ24 (h0 + 1) 4 = σ (h0 + 1) 4 := (w24 (h0 + 1) 4 (dS27_18 h0)).trans t3
                  replace t4 : σ24 (h0 + 1) 5 = σ (h0 + 1) 5 := (w24 (h0 + 1) 5 (dS27_19 h0)).trans t4
                  replace t5 : σ24 (h0 + 1) 6 = σ (h0 + 1) 6 := (w24 (h0 + 1) 6 (dS27_20 h0)).trans t5
                  replace t6 : σ24 (h0 + 1) 1 = σ23 (h0 + 1) 1 := (w24 (h0 + 1) 1 (dS27_21 h0)).trans t6
                  obtain ⟨n25, e25⟩ : ∃ y : Int32, y = ii + 1 := ⟨_, rfl⟩
                  have f25 : n25.toInt = (ii).toInt + (1) := by have h9 := zz_addT e25 (by omega) (by omega); omega
                  refine lv_iinc (v := n25) (lv' := [(2, .int n25), (3, .int hv), (0, .ref h0), (1, .int nn)]) hx hb dX9_loose_96 hl (k := 1) rfl (by rw [e25]; rfl) (by decide) rfl (fun ls hl => ?_)
                  refine lv_goto (tgt := 40) hx hb dX9_loose_99 (by decide) ?_
                  exact ih40 n25 (σ24 (h0 + 1) 0) (σ23 (h0 + 1) 2) (σ23 (h0 + 1) 1) σ24 _ _ _ (by omega) hC (by first | omega | exact hI | exact hT) (by first | omega | exact hI | exact hT) (by have hm : nn.toInt.toNat - ii.toInt.toNat = (nn.toInt.toNat - n25.toInt.toNat) + 1 := (by omega); rw [hm, zz_lo] at f40_2; rw [f24.1]; rw [if_pos ⟨by omega, by omega, by omega⟩] at f40_2; rw [f23.1]; exact f40_2) (by have hm : nn.toInt.toNat - ii.toInt.toNat = (nn.toInt.toNat - n25.toInt.toNat) + 1 := (by omega); rw [hm, zz_lz] at f40_3; rw [f24.1]; rw [if_pos ⟨by omega, by omega, by omega⟩] at f40_3; rw [f23.1, f23.2.1]; exact f40_3) (by intro j hj; rw [w24 _ _ (by first | (dsimp only; omega) | omega)]; exact f23.2.2.1 j hj) (by have hm : nn.toInt.toNat - ii.toInt.toNat = (nn.toInt.toNat - n25.toInt.toNat) + 1 := (by omega); rw [hm, zz_ld_s] at f40_5; rw [f24.1, zz_DMk (a := h0 + 1) w24 (by intro i h1 h2; first | (dsimp only; omega) | omega)]; rw [if_pos ⟨by omega, by omega, by omega⟩] at f40_5; rw [f23.1, f23.2.1, f23.2.2.2]; exact f40_5) (by rw [zz_DMk (a := h0 + 1) w24 (by intro i h1 h2; first | (dsimp only; omega) | omega)]; exact hid9) (by rw [zz_DMk (a := h0 + 1) w24 (by intro i h1 h2; first | (dsimp only; omega) | omega), f24.2, hF0, hV9]; exact zy_lf_y f40_7 (by omega) f24.1 ⟨by omega, by omega, by omega⟩ f23.1 f23.2.1 f23.2.2.2) (by rw [f24.2, hF0]; exact zy_FB.ag f40_8) t0 t1 t2 t3 t4 t5 t6 hP hS (lv_sub hl [0, 2, 3] rfl)
      exact J40 _ 0 (σ (h0 + 1) 0) (σ (h0 + 1) 2) (σ (h0 + 1) 1) σ _ _ _ (Nat.lt_succ_self _) hC (by first | omega | exact hI | exact hT) (by first | omega | exact hI | exact hT) (by rfl) (by rfl) (by exact hM) (by rw [zz_n0]) (by rw [hW.1]; exact hW.2.2.2.2.2.1) (by rw [zz_n0]; exact hFX) (by exact hFB) t0 t1 t2 t3 t4 t5 t6 hP hS (lv_sub hl [0, 1, 2] rfl)
    · have c5 := zz_nleT c5
      refine lv_aload_n hx hb dX9_loose_31 rfl (lv_at hl 0 rfl) ?_
      refine lv_ldc (v := (-1000000003)) hx hb hown (hts (.constant RX9 178 (-1000000003)) (List.mem_cons_of_mem _ bm_592)) dX9_loose_32 ?_
      refine zz_callVi (As := [.int (-1000000003)]) (rest := []) ⟨hx, hb, hml, hown, hts⟩ hK hP hS (c_X9_error l E σ h0 (-1000000003) g0 (by omega)) (cwV 1 hts gX9_loose_X9_error rfl rfl rfl (by decide +kernel) ⟨Nat.le_of_ble_eq_true rfl, Nat.le_of_ble_eq_true rfl⟩) (g0.1) rfl rfl hl.1 rfl (Nat.le_of_ble_eq_true rfl) dX9_loose_34 ⟨Nat.zero_le _, Nat.zero_le _⟩ (fun r26 σ26 H locs q26 hP1 hS1 => ?_)
      replace hP := hP1
      replace hS := hS1
      clear hP1 hS1
      try dsimp only at q26
      obtain ⟨w26, f26⟩ := q26
      replace hC := hC.tr (w26.mono (dS27_28 h0))
      replace t0 : σ26 (h0 + 1) 2 = σ (h0 + 1) 2 := (w26 (h0 + 1) 2 (dS27_29 h0)).trans t0
      replace t1 : σ26 (h0 + 1) 3 = σ (h0 + 1) 3 := (w26 (h0 + 1) 3 (dS27_29 h0)).trans t1
      replace t2 : σ26 (h0 + 1) 0 = σ (h0 + 1) 0 := (w26 (h0 + 1) 0 (dS27_29 h0)).trans t2
      replace t3 : σ26 (h0 + 1) 4 = σ (h0 + 1) 4 := (w26 (h0 + 1) 4 (dS27_29 h0)).trans t3
      replace t4 : σ26 (h0 + 1) 5 = σ (h0 + 1) 5 := (w26 (h0 + 1) 5 (dS27_29 h0)).trans t4
      replace t5 : σ26 (h0 + 1) 6 = σ (h0 + 1) 6 := (w26 (h0 + 1) 6 (dS27_29 h0)).trans t5
      replace t6 : σ26 (h0 + 1) 1 = σ (h0 + 1) 1 := (w26 (h0 + 1) 1 (dS27_29 h0)).trans t6
      exact zz_iret hx hb hr hlocks hK hP hS dX9_loose_37 (by exact ⟨hC, (hJ.soft (w26.mono (by intro a k h; omega))), Or.inr (Or.inl ⟨by omega, by omega, by omega, t2, t6, t0, zz_PMk (f := 1) (a := h0 + 1) w26 (by intro i hi; first | (dsimp only; omega) | omega), by rw [zz_DMk (a := h0 + 1) w26 (by intro i h1 h2; first | (dsimp only; omega) | omega)]⟩)⟩)
  · have c2 := zz_eqT c2
    refine lv_aload_n hx hb dX9_loose_10 rfl (lv_at hl 0 rfl) ?_
    refine lv_ldc (v := (-1000000001)) hx hb hown (hts (.constant RX9 93 (-1000000001)) (List.mem_cons_of_mem _ bm_138)) dX9_loose_11 ?_
    refine zz_callVi (As := [.int (-1000000001)]) (rest := []) ⟨hx, hb, hml, hown, hts⟩ hK hP hS (c_X9_error l E σ h0 (-1000000001) g0 (by omega)) (cwV 1 hts gX9_loose_X9_error rfl rfl rfl (by decide +kernel) ⟨Nat.le_of_ble_eq_true rfl, Nat.le_of_ble_eq_true rfl⟩) (g0.1) rfl rfl hl.1 rfl (Nat.le_of_ble_eq_true rfl) dX9_loose_13 ⟨Nat.zero_le _, Nat.zero_le _⟩ (fun r27 σ27 H locs q27 hP1 hS1 => ?_)
    replace hP := hP1
    replace hS := hS1
    clear hP1 hS1
    try dsimp only at q27
    obtain ⟨w27, f27⟩ := q27
    replace hC := hC.tr (w27.mono (dS27_28 h0))
    replace t0 : σ27 (h0 + 1) 2 = σ (h0 + 1) 2 := (w27 (h0 + 1) 2 (dS27_29 h0)).trans t0
    replace t1 : σ27 (h0 + 1) 3 = σ (h0 + 1) 3 := (w27 (h0 + 1) 3 (dS27_29 h0)).trans t1
    replace t2 : σ27 (h0 + 1) 0 = σ (h0 + 1) 0 := (w27 (h0 + 1) 0 (dS27_29 h0)).trans t2
    replace t3 : σ27 (h0 + 1) 4 = σ (h0 + 1) 4 := (w27 (h0 + 1) 4 (dS27_29 h0)).trans t3
    replace t4 : σ27 (h0 + 1) 5 = σ (h0 + 1) 5 := (w27 (h0 + 1) 5 (dS27_29 h0)).trans t4
    replace t5 : σ27 (h0 + 1) 6 = σ (h0 + 1) 6 := (w27 (h0 + 1) 6 (dS27_29 h0)).trans t5
    replace t6 : σ27 (h0 + 1) 1 = σ (h0 + 1) 1 := (w27 (h0 + 1) 1 (dS27_29 h0)).trans t6
    exact zz_iret hx hb hr hlocks hK hP hS dX9_loose_16 (by exact ⟨hC, (hJ.soft (w27.mono (by intro a k h; omega))), Or.inl ⟨by omega, by omega, t2, t6, t0, zz_PMk (f := 1) (a := h0 + 1) w27 (by intro i hi; first | (dsimp only; omega) | omega), by rw [zz_DMk (a := h0 + 1) w27 (by intro i h1 h2; first | (dsimp only; omega) | omega)]⟩⟩)
