theorem dS24_1 (x0 : Nat) : (x0 + 1) = x0 + 1 ∧ (1) = 1 := by omega
set_option maxHeartbeats 4000000 in
set_option maxRecDepth 100000 in
theorem c_X9_draw (l : Launch) (E : zz_E) (σ : zz_S) (h0 : Nat) (g0 : zz_M E h0) : Met l yX9_draw wzX9_draw ({ frames := 0, cells := 0, slots := 0, locals := 0 }) (va_Pc [.ref h0] (zz_B E σ)) (va_Qi (fun r σ1 => zz_ch (fun a k => a = h0 + 1 ∧ k = 1) σ σ1 ∧ (0 ≤ r.toInt ∧ σ1 (h0 + 1) 1 = zz_z (σ (h0 + 1) 1) ∧ r = zz_sh (zz_z (σ (h0 + 1) 1)))) (zz_B E) (zz_A E)) 0 0 (zz_A E) := by
  refine zz_met (cc := cX9_draw) (maxL := 1) (ret := (some .int)) (by decide) rfl (Nat.le_of_ble_eq_true rfl) ?_
  intro p e s m args below meth c ls hx hb hr hts hown hlocks hml hK hP hS hl
  have hl : lv_has ls 1 [(0, .ref h0)] := hl
  have hown : s.vm.findClass RX9 = some m.cls := hown
  have hi9 : ∀ w ∈ wsX90, w ∈ wzX9_draw := fun w h => List.mem_cons_of_mem _ (hbw9 w h)
  have k_1 : (1 : Int32).toInt = 1 := by decide +kernel
  have k_8 : (8 : Int32).toInt = 8 := by decide +kernel
  have k_12345 : (12345 : Int32).toInt = 12345 := by decide +kernel
  have k_1103515245 : (1103515245 : Int32).toInt = 1103515245 := by decide +kernel
  replace t0 : σ (h0 + 1) 1 = σ (h0 + 1) 1 := rfl
  have hC : zz_ch (fun a k => a = h0 + 1 ∧ k = 1) σ σ := zz_ch.rf σ
  refine lv_aload_n hx hb dX9_draw_0 rfl (lv_at hl 0 rfl) ?_
  refine zz_getr hx hb hts hi9 hown hK hP (g0.1) rfl 0 (by decide) (hts (.fieldLink RX9 9 "NoonLawModel" "row" "[I") (List.mem_cons_of_mem _ bm_93)) rfl rfl dX9_draw_1 ?_
  refine lv_iconst (v := 1) hx hb dX9_draw_4 (by decide) ?_
  refine lv_aload_n hx hb dX9_draw_5 rfl (lv_at hl 0 rfl) ?_
  refine zz_getr hx hb hts hi9 hown hK hP (g0.1) rfl 0 (by decide) (hts (.fieldLink RX9 9 "NoonLawModel" "row" "[I") (List.mem_cons_of_mem _ bm_93)) rfl rfl dX9_draw_6 ?_
  refine lv_iconst (v := 1) hx hb dX9_draw_9 (by decide) ?_
  refine zz_ialc hx hb hK hP (g0.2.1) 1 (by decide) (by decide) t0 dX9_draw_10 ?_
  refine lv_ldc (v := 1103515245) hx hb hown (hts (.constant RX9 182 (1103515245)) (List.mem_cons_of_mem _ bm_623)) dX9_draw_11 ?_
  refine lv_imul hx hb dX9_draw_13 ?_
  refine lv_topi (fun n2 e2 => ?_)
  refine lv_sipush (v := 12345) hx hb dX9_draw_14 (by decide) ?_
  refine lv_iadd hx hb dX9_draw_17 ?_
  refine lv_topi (fun n3 e3 => ?_)
  refine zz_iasc hx hb hK hP hS (g0.2.1) 1 (by decide) (by decide) dX9_draw_18 (fun σ4 H locs w4 hP1 hS1 => ?_)
  replace hP := hP1
  replace hS := hS1
  clear hP1 hS1
  replace hC := hC.u w4 (dS24_1 h0)
  replace t0 : σ4 (h0 + 1) 1 = n3 := zz_w1 w4
  refine lv_aload_n hx hb dX9_draw_19 rfl (lv_at hl 0 rfl) ?_
  refine zz_getr hx hb hts hi9 hown hK hP (g0.1) rfl 0 (by decide) (hts (.fieldLink RX9 9 "NoonLawModel" "row" "[I") (List.mem_cons_of_mem _ bm_93)) rfl rfl dX9_draw_20 ?_
  refine lv_iconst (v := 1) hx hb dX9_draw_23 (by decide) ?_
  refine zz_ialc hx hb hK hP (g0.2.1) 1 (by decide) (by decide) t0 dX9_draw_24 ?_
  refine lv_bipush (v := 8) hx hb dX9_draw_25 (by decide) ?_
  refine lv_iushr hx hb dX9_draw_27 rfl ?_
  refine lv_topi (fun n6 e6 => ?_)
  exact zz_iret hx hb hr hlocks hK hP hS dX9_draw_28 (by exact ⟨hC, zz_ushr8 rfl e6, t0.trans (by rw [e3, e2]; rfl), by rw [e6, e3, e2]; rfl⟩)
theorem dS24_2 (x0 : Nat) : (x0 + 1) = x0 + 1 ∧ ((2) = 2 ∨ (7 ≤ (2) ∧ (2) < 61)) := by omega
set_option maxHeartbeats 4000000 in
set_option maxRecDepth 100000 in
theorem c_X9_comes (l : Launch) (E : zz_E) (σ : zz_S) (h0 : Nat) (km : Int32) (mt : Int32) (bi : Int32) (da : Int32) (g0 : zz_M E h0) (hk : 0 ≤ km.toInt) (hd : 0 ≤ (σ (h0 + 1) 2).toInt ∧ (σ (h0 + 1) 2).toInt ≤ 8) (hM : ∀ j : Nat, j < 9 → 0 ≤ (σ (h0 + 1) (8 + 6 * j)).toInt ∧ (σ (h0 + 1) (8 + 6 * j)).toInt ≤ 9) : Met l yX9_comes wzX9_comes ({ frames := 0, cells := 0, slots := 0, locals := 0 }) (va_Pc [.ref h0, .int km, .int mt, .int bi, .int da] (zz_B E σ)) (va_Qi (fun r σ1 => zz_ch (fun a k => a = h0 + 1 ∧ (k = 2 ∨ (7 ≤ k ∧ k < 61))) σ σ1 ∧ (r = σ (h0 + 1) 2 ∧ (σ1 (h0 + 1) 2).toInt = (σ (h0 + 1) 2).toInt + 1 ∧ (∀ j : Nat, j < 9 → 0 ≤ (σ1 (h0 + 1) (8 + 6 * j)).toInt ∧ (σ1 (h0 + 1) (8 + 6 * j)).toInt ≤ 9) ∧ zz_DM σ1 (h0 + 1) = zz_dn (zz_DM σ (h0 + 1)) (σ (h0 + 1) 2).toInt (km.toInt / 10) (km.toInt % 10) mt.toInt bi.toInt da.toInt)) (zz_B E) (zz_A E)) 0 0 (zz_A E) := by
  refine zz_met (cc := cX9_comes) (maxL := 7) (ret := (some .int)) (by decide) rfl (Nat.le_of_ble_eq_true rfl) ?_
  intro p e s m args below meth c ls hx hb hr hts hown hlocks hml hK hP hS hl
  have hl : lv_has ls 7 [(0, .ref h0), (1, .int km), (2, .int mt), (3, .int bi), (4, .int da)] := hl
  have hown : s.vm.findClass RX9 = some m.cls := hown
  have hi9 : ∀ w ∈ wsX90, w ∈ wzX9_comes := fun w h => List.mem_cons_of_mem _ (hbw9 w h)
  have k_0 : (0 : Int32).toInt = 0 := by decide +kernel
  have k_1 : (1 : Int32).toInt = 1 := by decide +kernel
  have k_2 : (2 : Int32).toInt = 2 := by decide +kernel
  have k_3 : (3 : Int32).toInt = 3 := by decide +kernel
  have k_4 : (4 : Int32).toInt = 4 := by decide +kernel
  have k_5 : (5 : Int32).toInt = 5 := by decide +kernel
  have k_6 : (6 : Int32).toInt = 6 := by decide +kernel
  have k_7 : (7 : Int32).toInt = 7 := by decide +kernel
  have k_10 : (10 : Int32).toInt = 10 := by decide +kernel
  replace t0 : σ (h0 + 1) 2 = σ (h0 + 1) 2 := rfl
  have hC : zz_ch (fun a k => a = h0 + 1 ∧ (k = 2 ∨ (7 ≤ k ∧ k < 61))) σ σ := zz_ch.rf σ
  refine lv_aload_n hx hb dX9_comes_0 rfl (lv_at hl 0 rfl) ?_
  refine zz_getr hx hb hts hi9 hown hK hP (g0.1) rfl 0 (by decide) (hts (.fieldLink RX9 9 "NoonLawModel" "row" "[I") (List.mem_cons_of_mem _ bm_93)) rfl rfl dX9_comes_1 ?_
  refine lv_iconst (v := 2) hx hb dX9_comes_4 (by decide) ?_
  refine zz_ialc hx hb hK hP (g0.2.1) 2 (by decide) (by decide) t0 dX9_comes_5 ?_
  refine lv_istore (lv' := [(5, .int (σ (h0 + 1) 2)), (0, .ref h0), (1, .int km), (2, .int mt), (3, .int bi), (4, .int da)]) hx hb dX9_comes_6 hl (by decide) rfl (fun ls hl => ?_)
  refine lv_bipush (v := 7) hx hb dX9_comes_8 (by decide) ?_
  refine lv_bipush (v := 6) hx hb dX9_comes_10 (by decide) ?_
  refine lv_iload hx hb dX9_comes_12 (lv_at hl 0 rfl) ?_
  refine lv_imul hx hb dX9_comes_14 ?_
  refine lv_topi (fun n2 e2 => ?_)
  have f2 : n2.toInt = 6 * (σ (h0 + 1) 2).toInt := zz_mulL 6 e2 (by decide) (by omega) (by omega)
  refine lv_iadd hx hb dX9_comes_15 ?_
  refine lv_topi (fun n3 e3 => ?_)
  have f3 : n3.toInt = (7 : Int32).toInt + (n2).toInt := zz_addT e3 (by omega) (by omega)
  refine lv_istore (lv' := [(6, .int n3), (5, .int (σ (h0 + 1) 2)), (0, .ref h0), (1, .int km), (2, .int mt), (3, .int bi), (4, .int da)]) hx hb dX9_comes_16 hl (by decide) rfl (fun ls hl => ?_)
  refine lv_aload_n hx hb dX9_comes_18 rfl (lv_at hl 2 rfl) ?_
  refine zz_getr hx hb hts hi9 hown hK hP (g0.1) rfl 0 (by decide) (hts (.fieldLink RX9 9 "NoonLawModel" "row" "[I") (List.mem_cons_of_mem _ bm_93)) rfl rfl dX9_comes_19 ?_
  refine lv_iconst (v := 2) hx hb dX9_comes_22 (by decide) ?_
  refine lv_dup2_11 hx hb dX9_comes_23 rfl rfl ?_
  refine zz_ialc hx hb hK hP (g0.2.1) 2 (by decide) (by decide) t0 dX9_comes_24 ?_
  refine lv_iconst (v := 1) hx hb dX9_comes_25 (by decide) ?_
  refine lv_iadd hx hb dX9_comes_26 ?_
  refine lv_topi (fun n5 e5 => ?_)
  have f5 : n5.toInt = (σ (h0 + 1) 2).toInt + (1 : Int32).toInt := zz_addT e5 (by omega) (by omega)
  refine zz_iasc hx hb hK hP hS (g0.2.1) 2 (by decide) (by decide) dX9_comes_27 (fun σ6 H locs w6 hP1 hS1 => ?_)
  replace hP := hP1
  replace hS := hS1
  clear hP1 hS1
  replace hC := hC.u w6 (dS24_2 h0)
  replace t0 : σ6 (h0 + 1) 2 = n5 := zz_w1 w6
  refine lv_aload_n hx hb dX9_comes_28 rfl (lv_at hl 2 rfl) ?_
  refine zz_getr hx hb hts hi9 hown hK hP (g0.1) rfl 0 (by decide) (hts (.fieldLink RX9 9 "NoonLawModel" "row" "[I") (List.mem_cons_of_mem _ bm_93)) rfl rfl dX9_comes_29 ?_
  refine lv_iload hx hb dX9_comes_32 (lv_at hl 0 rfl) ?_
  refine lv_iload_n hx hb dX9_comes_34 rfl (lv_at hl 3 rfl) ?_
  refine lv_bipush (v := 10) hx hb dX9_comes_35 (by decide) ?_
  refine lv_idiv hx hb dX9_comes_37 (by decide) ?_
  refine lv_topi (fun n7 e7 => ?_)
  have f7 : n7.toInt = (km).toInt / 10 := zz_divT 10 e7 (by decide) (by omega)
  refine zz_iast hx hb hK hP hS (g0.2.1) (by omega) (by omega) dX9_comes_38 (fun j8 σ8 H locs q8 r8 w8 hP1 hS1 => ?_)
  replace hP := hP1
  replace hS := hS1
  clear hP1 hS1
  replace hC := hC.u w8 (by first | (dsimp only; omega) | omega | (dsimp only; done))
  replace t0 : σ8 (h0 + 1) 2 = n5 := (zz_w (b := (h0 + 1)) (j := 2) w8 (by omega)).trans t0
  refine lv_aload_n hx hb dX9_comes_39 rfl (lv_at hl 2 rfl) ?_
  refine zz_getr hx hb hts hi9 hown hK hP (g0.1) rfl 0 (by decide) (hts (.fieldLink RX9 9 "NoonLawModel" "row" "[I") (List.mem_cons_of_mem _ bm_93)) rfl rfl dX9_comes_40 ?_
  refine lv_iload hx hb dX9_comes_43 (lv_at hl 0 rfl) ?_
  refine lv_iconst (v := 1) hx hb dX9_comes_45 (by decide) ?_
  refine lv_iadd hx hb dX9_comes_46 ?_
  refine lv_topi (fun n9 e9 => ?_)
  have f9 : n9.toInt = (n3).toInt + (1 : Int32).toInt := zz_addT e9 (by omega) (by omega)
  refine lv_iload_n hx hb dX9_comes_47 rfl (lv_at hl 3 rfl) ?_
  refine lv_bipush (v := 10) hx hb dX9_comes_48 (by decide) ?_
  refine lv_irem hx hb dX9_comes_50 (by decide) ?_
  refine lv_topi (fun n10 e10 => ?_)
  have f10 : n10.toInt = (km).toInt % 10 := zz_remT 10 e10 (by decide) (by omega)
  refine zz_iast hx hb hK hP hS (g0.2.1) (by omega) (by omega) dX9_comes_51 (fun j11 σ11 H locs q11 r11 w11 hP1 hS1 => ?_)
  replace hP := hP1
  replace hS := hS1
  clear hP1 hS1
  replace hC := hC.u w11 (by first | (dsimp only; omega) | omega | (dsimp only; done))
  replace t0 : σ11 (h0 + 1) 2 = n5 := (zz_w (b := (h0 + 1)) (j := 2) w11 (by omega)).trans t0
  refine lv_aload_n hx hb dX9_comes_52 rfl (lv_at hl 2 rfl) ?_
  refine zz_getr hx hb hts hi9 hown hK hP (g0.1) rfl 0 (by decide) (hts (.fieldLink RX9 9 "NoonLawModel" "row" "[I") (List.mem_cons_of_mem _ bm_93)) rfl rfl dX9_comes_53 ?_
  refine lv_iload hx hb dX9_comes_56 (lv_at hl 0 rfl) ?_
  refine lv_iconst (v := 2) hx hb dX9_comes_58 (by decide) ?_
  refine lv_iadd hx hb dX9_comes_59 ?_
  refine lv_topi (fun n12 e12 => ?_)
  have f12 : n12.toInt = (n3).toInt + (2 : Int32).toInt := zz_addT e12 (by omega) (by omega)
  refine lv_iload_n hx hb dX9_comes_60 rfl (lv_at hl 4 rfl) ?_
  refine zz_iast hx hb hK hP hS (g0.2.1) (by omega) (by omega) dX9_comes_61 (fun j13 σ13 H locs q13 r13 w13 hP1 hS1 => ?_)
  replace hP := hP1
  replace hS := hS1
  clear hP1 hS1
  replace hC := hC.u w13 (by first | (dsimp only; omega) | omega | (dsimp only; done))
  replace t0 : σ13 (h0 + 1) 2 = n5 := (zz_w (b := (h0 + 1)) (j := 2) w13 (by omega)).trans t0
  refine lv_aload_n hx hb dX9_comes_62 rfl (lv_at hl 2 rfl) ?_
  refine zz_getr hx hb hts hi9 hown hK hP (g0.1) rfl 0 (by decide) (hts (.fieldLink RX9 9 "NoonLawModel" "row" "[I") (List.mem_cons_of_mem _ bm_93)) rfl rfl dX9_comes_63 ?_
  refine lv_iload hx hb dX9_comes_66 (lv_at hl 0 rfl) ?_
  refine lv_iconst (v := 3) hx hb dX9_comes_68 (by decide) ?_
  refine lv_iadd hx hb dX9_comes_69 ?_
  refine lv_topi (fun n14 e14 => ?_)
  have f14 : n14.toInt = (n3).toInt + (3 : Int32).toInt := zz_addT e14 (by omega) (by omega)
  refine lv_iload_n hx hb dX9_comes_70 rfl (lv_at hl 5 rfl) ?_
  refine zz_iast hx hb hK hP hS (g0.2.1) (by omega) (by omega) dX9_comes_71 (fun j15 σ15 H locs q15 r15 w15 hP1 hS1 => ?_)
  replace hP := hP1
  replace hS := hS1
  clear hP1 hS1
  replace hC := hC.u w15 (by first | (dsimp only; omega) | omega | (dsimp only; done))
  replace t0 : σ15 (h0 + 1) 2 = n5 := (zz_w (b := (h0 + 1)) (j := 2) w15 (by omega)).trans t0
  refine lv_aload_n hx hb dX9_comes_72 rfl (lv_at hl 2 rfl) ?_
  refine zz_getr hx hb hts hi9 hown hK hP (g0.1) rfl 0 (by decide) (hts (.fieldLink RX9 9 "NoonLawModel" "row" "[I") (List.mem_cons_of_mem _ bm_93)) rfl rfl dX9_comes_73 ?_
  refine lv_iload hx hb dX9_comes_76 (lv_at hl 0 rfl) ?_
  refine lv_iconst (v := 4) hx hb dX9_comes_78 (by decide) ?_
  refine lv_iadd hx hb dX9_comes_79 ?_
  refine lv_topi (fun n16 e16 => ?_)
  have f16 : n16.toInt = (n3).toInt + (4 : Int32).toInt := zz_addT e16 (by omega) (by omega)
  refine lv_iload hx hb dX9_comes_80 (lv_at hl 6 rfl) ?_
  refine zz_iast hx hb hK hP hS (g0.2.1) (by omega) (by omega) dX9_comes_82 (fun j17 σ17 H locs q17 r17 w17 hP1 hS1 => ?_)
  replace hP := hP1
  replace hS := hS1
  clear hP1 hS1
  replace hC := hC.u w17 (by first | (dsimp only; omega) | omega | (dsimp only; done))
  replace t0 : σ17 (h0 + 1) 2 = n5 := (zz_w (b := (h0 + 1)) (j := 2) w17 (by omega)).trans t0
  refine lv_aload_n hx hb dX9_comes_83 rfl (lv_at hl 2 rfl) ?_
  refine zz_getr hx hb hts hi9 hown hK hP (g0.1) rfl 0 (by decide) (hts (.fieldLink RX9 9 "NoonLawModel" "row" "[I") (List.mem_cons_of_mem _ bm_93)) rfl rfl dX9_comes_84 ?_
  refine lv_iload hx hb dX9_comes_87 (lv_at hl 0 rfl) ?_
  refine lv_iconst (v := 5) hx hb dX9_comes_89 (by decide) ?_
  refine lv_iadd hx hb dX9_comes_90 ?_
  refine lv_topi (fun n18 e18 => ?_)
  have f18 : n18.toInt = (n3).toInt + (5 : Int32).toInt := zz_addT e18 (by omega) (by omega)
  refine lv_iconst (v := 0) hx hb dX9_comes_91 (by decide) ?_
  refine zz_iast hx hb hK hP hS (g0.2.1) (by omega) (by omega) dX9_comes_92 (fun j19 σ19 H locs q19 r19 w19 hP1 hS1 => ?_)
  replace hP := hP1
  replace hS := hS1
  clear hP1 hS1
  replace hC := hC.u w19 (by first | (dsimp only; omega) | omega | (dsimp only; done))
  replace t0 : σ19 (h0 + 1) 2 = n5 := (zz_w (b := (h0 + 1)) (j := 2) w19 (by omega)).trans t0
  refine lv_iload hx hb dX9_comes_93 (lv_at hl 1 rfl) ?_
  exact zz_iret hx hb hr hlocks hK hP hS dX9_comes_95 (by exact ⟨hC, rfl, by rw [t0]; omega, (fun j hj => if hq : 8 + 6 * j = j11 then (by rw [w19, zz_un (by omega), w17, zz_un (by omega), w15, zz_un (by omega), w13, zz_un (by omega), w11, hq, zz_us]; omega) else (by rw [w19, zz_un (by omega), w17, zz_un (by omega), w15, zz_un (by omega), w13, zz_un (by omega), w11, zz_un (by omega), w8, zz_un (by omega), w6, zz_un (by omega)]; exact hM j hj)), by unfold zz_dn; rw [zz_DMw (d := (σ (h0 + 1) 2).toInt) (σ (h0 + 1) 2).toInt.toNat 5 w19 (by omega) (by omega) (by omega) (by decide), zz_DMw (d := (σ (h0 + 1) 2).toInt) (σ (h0 + 1) 2).toInt.toNat 4 w17 (by omega) (by omega) (by omega) (by decide), zz_DMw (d := (σ (h0 + 1) 2).toInt) (σ (h0 + 1) 2).toInt.toNat 3 w15 (by omega) (by omega) (by omega) (by decide), zz_DMw (d := (σ (h0 + 1) 2).toInt) (σ (h0 + 1) 2).toInt.toNat 2 w13 (by omega) (by omega) (by omega) (by decide), zz_DMw (d := (σ (h0 + 1) 2).toInt) (σ (h0 + 1) 2).toInt.toNat 1 w11 (by omega) (by omega) (by omega) (by decide), zz_DMw (d := (σ (h0 + 1) 2).toInt) (σ (h0 + 1) 2).toInt.toNat 0 w8 (by omega) (by omega) (by omega) (by decide), zz_DMo (a := h0 + 1) w6 (by omega), f7, f10, k_0]⟩)
theorem gX9_dream_X9_isKm : GoodIn wzX9_dream (va_wsS RX9 89 yX9_isKm wzX9_isKm) := wz_co bm_140 (wz_co bm_141 (wz_co bm_5 (wz_in bm_142)))
theorem gX9_dream_X9_in : GoodIn wzX9_dream (va_wsS RX9 47 yX9_in wzX9_in) := wz_co bm_143 (wz_co bm_144 (wz_co bm_5 (wz_in bm_145)))
theorem gX9_dream_X9_error : GoodIn wzX9_dream (wsV RX9 94 RX9 yX9_error wzX9_error) := wz_co bm_146 (wz_co bm_147 (wz_co bm_148 (wz_co bm_5 (wz_in bm_149))))
theorem gX9_dream_X9_comes : GoodIn wzX9_dream (wsV RX9 98 RX9 yX9_comes wzX9_comes) := wz_co bm_151 (wz_co bm_152 (wz_co bm_153 (wz_co bm_5 (wz_in bm_154))))
theorem dS24_3 (x0 : Nat) : ∀ a k : Nat, (a = (x0) + 3) → ((a = x0 + 3 ∨ (x0 + 7 ≤ a ∧ a ≤ x0 + 11)) ∨ (a = x0 + 1 ∧ (k = 2 ∨ (7 ≤ k ∧ k < 61)))) := by intro a k h; omega
theorem dS24_4 (x0 : Nat) : ¬ ((x0 + 1) = (x0) + 3) := by omega
theorem dS24_5 (x0 : Nat) : ∀ a k : Nat, (a = (x0) + 1 ∧ (k = 2 ∨ (7 ≤ k ∧ k < 61))) → ((a = x0 + 3 ∨ (x0 + 7 ≤ a ∧ a ≤ x0 + 11)) ∨ (a = x0 + 1 ∧ (k = 2 ∨ (7 ≤ k ∧ k < 61)))) := by intro a k h; omega
theorem dS24_6 (x0 : Nat) : ¬ ((x0 + 1) = (x0) + 1 ∧ ((3) = 2 ∨ (7 ≤ (3) ∧ (3) < 61))) := by omega
theorem dS24_7 (x0 : Nat) : ¬ ((x0 + 1) = (x0) + 1 ∧ ((0) = 2 ∨ (7 ≤ (0) ∧ (0) < 61))) := by omega
theorem dS24_8 (x0 : Nat) : ¬ ((x0 + 1) = (x0) + 1 ∧ ((4) = 2 ∨ (7 ≤ (4) ∧ (4) < 61))) := by omega
theorem dS24_9 (x0 : Nat) : ¬ ((x0 + 1) = (x0) + 1 ∧ ((5) = 2 ∨ (7 ≤ (5) ∧ (5) < 61))) := by omega
theorem dS24_10 (x0 : Nat) : ¬ ((x0 + 1) = (x0) + 1 ∧ ((6) = 2 ∨ (7 ≤ (6) ∧ (6) < 61))) := by omega
theorem dS24_11 (x0 : Nat) : ¬ ((x0 + 1) = (x0) + 1 ∧ ((1) = 2 ∨ (7 ≤ (1) ∧ (1) < 61))) := by omega
set_option maxHeartbeats 4000000 in
set_option maxRecDepth 100000 in
theorem c_X9_dream (l : Launch) (E : zz_E) (σ : zz_S) (h0 : Nat) (km : Int32) (mb : Int32) (day : Int32) (g0 : zz_M E h0) (hJ : zz_IM σ h0) : Met l yX9_dream wzX9_dream ({ frames := 2, cells := 0, slots := 0, locals := 42 }) (va_Pc [.ref h0, .int km, .int mb, .int day] (zz_B E σ)) (va_Qi (fun r σ1 => zz_ch (fun a k => (a = h0 + 3 ∨ (h0 + 7 ≤ a ∧ a ≤ h0 + 11)) ∨ (a = h0 + 1 ∧ (k = 2 ∨ (7 ≤ k ∧ k < 61)))) σ σ1 ∧ (zz_IM σ1 h0 ∧ (((¬ (0 ≤ km.toInt ∧ km.toInt ≤ 69 ∧ 0 ≤ mb.toInt ∧ mb.toInt ≤ 99 ∧ mb.toInt % 10 ≤ 1 ∧ 0 ≤ day.toInt ∧ day.toInt ≤ 99) ∧ r.toInt = -1000000001 ∧ (σ1 (h0 + 1) 2).toInt = (σ (h0 + 1) 2).toInt) ∨ ((0 ≤ km.toInt ∧ km.toInt ≤ 69 ∧ 0 ≤ mb.toInt ∧ mb.toInt ≤ 99 ∧ mb.toInt % 10 ≤ 1 ∧ 0 ≤ day.toInt ∧ day.toInt ≤ 99) ∧ (((σ (h0 + 1) 2).toInt = 9 ∧ r.toInt = -1000000004 ∧ (σ1 (h0 + 1) 2).toInt = 9) ∨ ((σ (h0 + 1) 2).toInt < 9 ∧ r.toInt = (σ (h0 + 1) 2).toInt ∧ (σ1 (h0 + 1) 2).toInt = (σ (h0 + 1) 2).toInt + 1)))) ∧ (r.toInt < 0 → zz_DM σ1 (h0 + 1) = zz_DM σ (h0 + 1)) ∧ (0 ≤ r.toInt → zz_DM σ1 (h0 + 1) = zz_dn (zz_DM σ (h0 + 1)) (σ (h0 + 1) 2).toInt (km.toInt / 10) (km.toInt % 10) (mb.toInt / 10) (mb.toInt % 10) day.toInt)))) (zz_B E) (zz_A E)) 0 0 (zz_A E) := by
  refine zz_met (cc := cX9_dream) (maxL := 4) (ret := (some .int)) (by decide) rfl (Nat.le_of_ble_eq_true rfl) ?_
  intro p e s m args below meth c ls hx hb hr hts hown hlocks hml hK hP hS hl
  have hl : lv_has ls 4 [(0, .ref h0), (1, .int km), (2, .int mb), (3, .int day)] := hl
  have hown : s.vm.findClass RX9 = some m.cls := hown
  have hi9 : ∀ w ∈ wsX90, w ∈ wzX9_dream := fun w h => List.mem_cons_of_mem _ (hbw9 w h)
  have k_m1000000004 : ((-1000000004) : Int32).toInt = -1000000004 := by decide +kernel
  have k_m1000000001 : ((-1000000001) : Int32).toInt = -1000000001 := by decide +kernel
  have k_0 : (0 : Int32).toInt = 0 := by decide +kernel
  have k_1 : (1 : Int32).toInt = 1 := by decide +kernel
  have k_2 : (2 : Int32).toInt = 2 := by decide +kernel
  have k_9 : (9 : Int32).toInt = 9 := by decide +kernel
  have k_10 : (10 : Int32).toInt = 10 := by decide +kernel
  have k_99 : (99 : Int32).toInt = 99 := by decide +kernel
  replace t0 : σ (h0 + 1) 2 = σ (h0 + 1) 2 := rfl
  replace t1 : σ (h0 + 1) 3 = σ (h0 + 1) 3 := rfl
  replace t2 : σ (h0 + 1) 0 = σ (h0 + 1) 0 := rfl
  replace t3 : σ (h0 + 1) 4 = σ (h0 + 1) 4 := rfl
  replace t4 : σ (h0 + 1) 5 = σ (h0 + 1) 5 := rfl
  replace t5 : σ (h0 + 1) 6 = σ (h0 + 1) 6 := rfl
  replace t6 : σ (h0 + 1) 1 = σ (h0 + 1) 1 := rfl
  have hC : zz_ch (fun a k => (a = h0 + 3 ∨ (h0 + 7 ≤ a ∧ a ≤ h0 + 11)) ∨ (a = h0 + 1 ∧ (k = 2 ∨ (7 ≤ k ∧ k < 61)))) σ σ := zz_ch.rf σ
  have hI := hJ.1
  obtain ⟨hh, hsl, hd, hp, htc, hwc, hM, hT⟩ := id hI
  have hz5 := hJ.2.2.1
  have htr := hJ.2.2.2
  refine lv_iload_n hx hb dX9_dream_0 rfl (lv_at hl 1 rfl) ?_
  refine zz_callSp (As := [.int km]) (rest := []) ⟨hx, hb, hml, hown, hts⟩ hK hP hS (c_X9_isKm l E σ km) (va_cwS 1 hts gX9_dream_X9_isKm rfl rfl rfl (by decide +kernel) ⟨Nat.le_of_ble_eq_true rfl, Nat.le_of_ble_eq_true rfl⟩) rfl hl.1 rfl (Nat.le_of_ble_eq_true rfl) dX9_dream_1 ⟨Nat.zero_le _, Nat.zero_le _⟩ (fun r1 H locs f1 hP1 hS1 => ?_)
  replace hP := hP1
  replace hS := hS1
  clear hP1 hS1
  refine lv_if_eq (tgt := 35) hx hb dX9_dream_4 (by decide) (fun c2 => ?_) (fun c2 => ?_)
  · have c2 := zz_eqT c2
    refine lv_aload_n hx hb dX9_dream_35 rfl (lv_at hl 0 rfl) ?_
    refine lv_ldc (v := (-1000000001)) hx hb hown (hts (.constant RX9 93 (-1000000001)) (List.mem_cons_of_mem _ bm_138)) dX9_dream_36 ?_
    refine zz_callVi (As := [.int (-1000000001)]) (rest := []) ⟨hx, hb, hml, hown, hts⟩ hK hP hS (c_X9_error l E σ h0 (-1000000001) g0 (by omega)) (cwV 1 hts gX9_dream_X9_error rfl rfl rfl (by decide +kernel) ⟨Nat.le_of_ble_eq_true rfl, Nat.le_of_ble_eq_true rfl⟩) (g0.1) rfl rfl hl.1 rfl (Nat.le_of_ble_eq_true rfl) dX9_dream_38 ⟨Nat.zero_le _, Nat.zero_le _⟩ (fun r3 σ3 H locs q3 hP1 hS1 => ?_)
    replace hP := hP1
    replace hS := hS1
    clear hP1 hS1
    try dsimp only at q3
    obtain ⟨w3, f3⟩ := q3
    replace hC := hC.tr (w3.mono (dS24_3 h0))
    replace t0 : σ3 (h0 + 1) 2 = σ (h0 + 1) 2 := (w3 (h0 + 1) 2 (dS24_4 h0)).trans t0
    replace t1 : σ3 (h0 + 1) 3 = σ (h0 + 1) 3 := (w3 (h0 + 1) 3 (dS24_4 h0)).trans t1
    replace t2 : σ3 (h0 + 1) 0 = σ (h0 + 1) 0 := (w3 (h0 + 1) 0 (dS24_4 h0)).trans t2
    replace t3 : σ3 (h0 + 1) 4 = σ (h0 + 1) 4 := (w3 (h0 + 1) 4 (dS24_4 h0)).trans t3
    replace t4 : σ3 (h0 + 1) 5 = σ (h0 + 1) 5 := (w3 (h0 + 1) 5 (dS24_4 h0)).trans t4
    replace t5 : σ3 (h0 + 1) 6 = σ (h0 + 1) 6 := (w3 (h0 + 1) 6 (dS24_4 h0)).trans t5
    replace t6 : σ3 (h0 + 1) 1 = σ (h0 + 1) 1 := (w3 (h0 + 1) 1 (dS24_4 h0)).trans t6
    exact zz_iret hx hb hr hlocks hK hP hS dX9_dream_41 (by exact ⟨hC, (hJ.soft (w3.mono (by intro a k h; omega))), by rw [t0]; omega, (fun _ => by rw [zz_DMk (a := h0 + 1) w3 (by intro i h1 h2; first | (dsimp only; omega) | omega)]), (fun q => absurd q (by omega))⟩)
  · have c2 := zz_neT c2
    refine lv_iload_n hx hb dX9_dream_7 rfl (lv_at hl 2 rfl) ?_
    refine lv_iconst (v := 0) hx hb dX9_dream_8 (by decide) ?_
    refine lv_bipush (v := 99) hx hb dX9_dream_9 (by decide) ?_
    refine zz_callSp (As := [.int mb, .int 0, .int 99]) (rest := []) ⟨hx, hb, hml, hown, hts⟩ hK hP hS (c_X9_in l E σ mb 0 99) (va_cwS 3 hts gX9_dream_X9_in rfl rfl rfl (by decide +kernel) ⟨Nat.le_of_ble_eq_true rfl, Nat.le_of_ble_eq_true rfl⟩) rfl hl.1 rfl (Nat.le_of_ble_eq_true rfl) dX9_dream_11 ⟨Nat.zero_le _, Nat.zero_le _⟩ (fun r4 H locs f4 hP1 hS1 => ?_)
    replace hP := hP1
    replace hS := hS1
    clear hP1 hS1
    refine lv_if_eq (tgt := 35) hx hb dX9_dream_14 (by decide) (fun c5 => ?_) (fun c5 => ?_)
    · have c5 := zz_eqT c5
      refine lv_aload_n hx hb dX9_dream_35 rfl (lv_at hl 0 rfl) ?_
      refine lv_ldc (v := (-1000000001)) hx hb hown (hts (.constant RX9 93 (-1000000001)) (List.mem_cons_of_mem _ bm_138)) dX9_dream_36 ?_
      refine zz_callVi (As := [.int (-1000000001)]) (rest := []) ⟨hx, hb, hml, hown, hts⟩ hK hP hS (c_X9_error l E σ h0 (-1000000001) g0 (by omega)) (cwV 1 hts gX9_dream_X9_error rfl rfl rfl (by decide +kernel) ⟨Nat.le_of_ble_eq_true rfl, Nat.le_of_ble_eq_true rfl⟩) (g0.1) rfl rfl hl.1 rfl (Nat.le_of_ble_eq_true rfl) dX9_dream_38 ⟨Nat.zero_le _, Nat.zero_le _⟩ (fun r6 σ6 H locs q6 hP1 hS1 => ?_)
      replace hP := hP1
      replace hS := hS1
      clear hP1 hS1
      try dsimp only at q6
      obtain ⟨w6, f6⟩ := q6
      replace hC := hC.tr (w6.mono (dS24_3 h0))
      replace t0 : σ6 (h0 + 1) 2 = σ (h0 + 1) 2 := (w6 (h0 + 1) 2 (dS24_4 h0)).trans t0
      replace t1 : σ6 (h0 + 1) 3 = σ (h0 + 1) 3 := (w6 (h0 + 1) 3 (dS24_4 h0)).trans t1
      replace t2 : σ6 (h0 + 1) 0 = σ (h0 + 1) 0 := (w6 (h0 + 1) 0 (dS24_4 h0)).trans t2
      replace t3 : σ6 (h0 + 1) 4 = σ (h0 + 1) 4 := (w6 (h0 + 1) 4 (dS24_4 h0)).trans t3
      replace t4 : σ6 (h0 + 1) 5 = σ (h0 + 1) 5 := (w6 (h0 + 1) 5 (dS24_4 h0)).trans t4
      replace t5 : σ6 (h0 + 1) 6 = σ (h0 + 1) 6 := (w6 (h0 + 1) 6 (dS24_4 h0)).trans t5
      replace t6 : σ6 (h0 + 1) 1 = σ (h0 + 1) 1 := (w6 (h0 + 1) 1 (dS24_4 h0)).trans t6
      exact zz_iret hx hb hr hlocks hK hP hS dX9_dream_41 (by exact ⟨hC, (hJ.soft (w6.mono (by intro a k h; omega))), by rw [t0]; omega, (fun _ => by rw [zz_DMk (a := h0 + 1) w6 (by intro i h1 h2; first | (dsimp only; omega) | omega)]), (fun q => absurd q (by omega))⟩)
    · have c5 := zz_neT c5
      refine lv_iload_n hx hb dX9_dream_17 rfl (lv_at hl 2 rfl) ?_
      refine lv_bipush (v := 10) hx hb dX9_dream_18 (by decide) ?_
      refine lv_irem hx hb dX9_dream_20 (by decide) ?_
      refine lv_topi (fun n7 e7 => ?_)
      have f7 : n7.toInt = (mb).toInt % 10 := zz_remT 10 e7 (by decide) (by omega)
      refine lv_iconst (v := 1) hx hb dX9_dream_21 (by decide) ?_
      refine lv_icmp_gt (tgt := 35) hx hb dX9_dream_22 (by decide) (fun c8 => ?_) (fun c8 => ?_)
      · have c8 := zz_ltT c8
        refine lv_aload_n hx hb dX9_dream_35 rfl (lv_at hl 0 rfl) ?_
        refine lv_ldc (v := (-1000000001)) hx hb hown (hts (.constant RX9 93 (-1000000001)) (List.mem_cons_of_mem _ bm_138)) dX9_dream_36 ?_
        refine zz_callVi (As := [.int (-1000000001)]) (rest := []) ⟨hx, hb, hml, hown, hts⟩ hK hP hS (c_X9_error l E σ h0 (-1000000001) g0 (by omega)) (cwV 1 hts gX9_dream_X9_error rfl rfl rfl (by decide +kernel) ⟨Nat.le_of_ble_eq_true rfl, Nat.le_of_ble_eq_true rfl⟩) (g0.1) rfl rfl hl.1 rfl (Nat.le_of_ble_eq_true rfl) dX9_dream_38 ⟨Nat.zero_le _, Nat.zero_le _⟩ (fun r9 σ9 H locs q9 hP1 hS1 => ?_)
        replace hP := hP1
        replace hS := hS1
        clear hP1 hS1
        try dsimp only at q9
        obtain ⟨w9, f9⟩ := q9
        replace hC := hC.tr (w9.mono (dS24_3 h0))
        replace t0 : σ9 (h0 + 1) 2 = σ (h0 + 1) 2 := (w9 (h0 + 1) 2 (dS24_4 h0)).trans t0
        replace t1 : σ9 (h0 + 1) 3 = σ (h0 + 1) 3 := (w9 (h0 + 1) 3 (dS24_4 h0)).trans t1
        replace t2 : σ9 (h0 + 1) 0 = σ (h0 + 1) 0 := (w9 (h0 + 1) 0 (dS24_4 h0)).trans t2
        replace t3 : σ9 (h0 + 1) 4 = σ (h0 + 1) 4 := (w9 (h0 + 1) 4 (dS24_4 h0)).trans t3
        replace t4 : σ9 (h0 + 1) 5 = σ (h0 + 1) 5 := (w9 (h0 + 1) 5 (dS24_4 h0)).trans t4
        replace t5 : σ9 (h0 + 1) 6 = σ (h0 + 1) 6 := (w9 (h0 + 1) 6 (dS24_4 h0)).trans t5
        replace t6 : σ9 (h0 + 1) 1 = σ (h0 + 1) 1 := (w9 (h0 + 1) 1 (dS24_4 h0)).trans t6
        exact zz_iret hx hb hr hlocks hK hP hS dX9_dream_41 (by exact ⟨hC, (hJ.soft (w9.mono (by intro a k h; omega))), by rw [t0]; omega, (fun _ => by rw [zz_DMk (a := h0 + 1) w9 (by intro i h1 h2; first | (dsimp only; omega) | omega)]), (fun q => absurd q (by omega))⟩)
      · have c8 := zz_nltT c8
        refine lv_iload_n hx hb dX9_dream_25 rfl (lv_at hl 3 rfl) ?_
        refine lv_iconst (v := 0) hx hb dX9_dream_26 (by decide) ?_
        refine lv_bipush (v := 99) hx hb dX9_dream_27 (by decide) ?_
        refine zz_callSp (As := [.int day, .int 0, .int 99]) (rest := []) ⟨hx, hb, hml, hown, hts⟩ hK hP hS (c_X9_in l E σ day 0 99) (va_cwS 3 hts gX9_dream_X9_in rfl rfl rfl (by decide +kernel) ⟨Nat.le_of_ble_eq_true rfl, Nat.le_of_ble_eq_true rfl⟩) rfl hl.1 rfl (Nat.le_of_ble_eq_true rfl) dX9_dream_29 ⟨Nat.zero_le _, Nat.zero_le _⟩ (fun r10 H locs f10 hP1 hS1 => ?_)
        replace hP := hP1
        replace hS := hS1
        clear hP1 hS1
        refine lv_if_ne (tgt := 42) hx hb dX9_dream_32 (by decide) (fun c11 => ?_) (fun c11 => ?_)
        · have c11 := zz_neT c11
          refine lv_aload_n hx hb dX9_dream_42 rfl (lv_at hl 0 rfl) ?_
          refine zz_getr hx hb hts hi9 hown hK hP (g0.1) rfl 0 (by decide) (hts (.fieldLink RX9 9 "NoonLawModel" "row" "[I") (List.mem_cons_of_mem _ bm_93)) rfl rfl dX9_dream_43 ?_
          refine lv_iconst (v := 2) hx hb dX9_dream_46 (by decide) ?_
          refine zz_ialc hx hb hK hP (g0.2.1) 2 (by decide) (by decide) t0 dX9_dream_47 ?_
          refine lv_bipush (v := 9) hx hb dX9_dream_48 (by decide) ?_
          refine lv_icmp_ne (tgt := 62) hx hb dX9_dream_50 (by decide) (fun c13 => ?_) (fun c13 => ?_)
          · have c13 := zz_neT c13
            refine lv_aload_n hx hb dX9_dream_62 rfl (lv_at hl 0 rfl) ?_
            refine lv_iload_n hx hb dX9_dream_63 rfl (lv_at hl 1 rfl) ?_
            refine lv_iload_n hx hb dX9_dream_64 rfl (lv_at hl 2 rfl) ?_
            refine lv_bipush (v := 10) hx hb dX9_dream_65 (by decide) ?_
            refine lv_idiv hx hb dX9_dream_67 (by decide) ?_
            refine lv_topi (fun n14 e14 => ?_)
            have f14 : n14.toInt = (mb).toInt / 10 := zz_divT 10 e14 (by decide) (by omega)
            refine lv_iload_n hx hb dX9_dream_68 rfl (lv_at hl 2 rfl) ?_
            refine lv_bipush (v := 10) hx hb dX9_dream_69 (by decide) ?_
            refine lv_irem hx hb dX9_dream_71 (by decide) ?_
            refine lv_topi (fun n15 e15 => ?_)
            have f15 : n15.toInt = (mb).toInt % 10 := zz_remT 10 e15 (by decide) (by omega)
            refine lv_iload_n hx hb dX9_dream_72 rfl (lv_at hl 3 rfl) ?_
            skip
            refine zz_callVi (As := [.int km, .int n14, .int n15, .int day]) (rest := []) ⟨hx, hb, hml, hown, hts⟩ hK hP hS (c_X9_comes l E σ h0 km n14 n15 day g0 (by omega) (by omega) (by exact hM)) (cwV 4 hts gX9_dream_X9_comes rfl rfl rfl (by decide +kernel) ⟨Nat.le_of_ble_eq_true rfl, Nat.le_of_ble_eq_true rfl⟩) (g0.1) rfl rfl hl.1 rfl (Nat.le_of_ble_eq_true rfl) dX9_dream_73 ⟨Nat.zero_le _, Nat.zero_le _⟩ (fun r16 σ16 H locs q16 hP1 hS1 => ?_)
            replace hP := hP1
            replace hS := hS1
            clear hP1 hS1
            try dsimp only at q16
            obtain ⟨w16, f16⟩ := q16
            replace hC := hC.tr (w16.mono (dS24_5 h0))
            replace t0 : σ16 (h0 + 1) 2 = σ16 (h0 + 1) 2 := rfl
            replace t1 : σ16 (h0 + 1) 3 = σ (h0 + 1) 3 := (w16 (h0 + 1) 3 (dS24_6 h0)).trans t1
            replace t2 : σ16 (h0 + 1) 0 = σ (h0 + 1) 0 := (w16 (h0 + 1) 0 (dS24_7 h0)).trans t2
            replace t3 : σ16 (h0 + 1) 4 = σ (h0 + 1) 4 := (w16 (h0 + 1) 4 (dS24_8 h0)).trans t3
            replace t4 : σ16 (h0 + 1) 5 = σ (h0 + 1) 5 := (w16 (h0 + 1) 5 (dS24_9 h0)).trans t4
            replace t5 : σ16 (h0 + 1) 6 = σ (h0 + 1) 6 := (w16 (h0 + 1) 6 (dS24_10 h0)).trans t5
            replace t6 : σ16 (h0 + 1) 1 = σ (h0 + 1) 1 := (w16 (h0 + 1) 1 (dS24_11 h0)).trans t6
            exact zz_iret hx hb hr hlocks hK hP hS dX9_dream_76 (by have h9 := congrArg Int32.toInt f16.1; exact ⟨hC, (hJ.row (hI.scal (fun k hk => hC _ _ (by first | (dsimp only; omega) | omega)) (fun j hj => f16.2.2.1 j hj) (by rw [t2]; omega) (by rw [t3]; omega) (by rw [t0]; omega) (by rw [t1]; omega) (by rw [t4]; omega) (by rw [t5]; omega)) (hC.mono (by intro a k h; first | (dsimp only at h ⊢; omega) | omega))), by rw [t0]; omega, (fun q => absurd q (by omega)), (fun _ => by rw [f16.2.2.2, f14, f15])⟩)
          · have c13 := zz_eqT c13
            refine lv_aload_n hx hb dX9_dream_53 rfl (lv_at hl 0 rfl) ?_
            refine lv_ldc (v := (-1000000004)) hx hb hown (hts (.constant RX9 97 (-1000000004)) (List.mem_cons_of_mem _ bm_139)) dX9_dream_54 ?_
            refine zz_callVi (As := [.int (-1000000004)]) (rest := []) ⟨hx, hb, hml, hown, hts⟩ hK hP hS (c_X9_error l E σ h0 (-1000000004) g0 (by omega)) (cwV 1 hts gX9_dream_X9_error rfl rfl rfl (by decide +kernel) ⟨Nat.le_of_ble_eq_true rfl, Nat.le_of_ble_eq_true rfl⟩) (g0.1) rfl rfl hl.1 rfl (Nat.le_of_ble_eq_true rfl) dX9_dream_56 ⟨Nat.zero_le _, Nat.zero_le _⟩ (fun r17 σ17 H locs q17 hP1 hS1 => ?_)
            replace hP := hP1
            replace hS := hS1
            clear hP1 hS1
            try dsimp only at q17
            obtain ⟨w17, f17⟩ := q17
            replace hC := hC.tr (w17.mono (dS24_3 h0))
            replace t0 : σ17 (h0 + 1) 2 = σ (h0 + 1) 2 := (w17 (h0 + 1) 2 (dS24_4 h0)).trans t0
            replace t1 : σ17 (h0 + 1) 3 = σ (h0 + 1) 3 := (w17 (h0 + 1) 3 (dS24_4 h0)).trans t1
            replace t2 : σ17 (h0 + 1) 0 = σ (h0 + 1) 0 := (w17 (h0 + 1) 0 (dS24_4 h0)).trans t2
            replace t3 : σ17 (h0 + 1) 4 = σ (h0 + 1) 4 := (w17 (h0 + 1) 4 (dS24_4 h0)).trans t3
            replace t4 : σ17 (h0 + 1) 5 = σ (h0 + 1) 5 := (w17 (h0 + 1) 5 (dS24_4 h0)).trans t4
            replace t5 : σ17 (h0 + 1) 6 = σ (h0 + 1) 6 := (w17 (h0 + 1) 6 (dS24_4 h0)).trans t5
            replace t6 : σ17 (h0 + 1) 1 = σ (h0 + 1) 1 := (w17 (h0 + 1) 1 (dS24_4 h0)).trans t6
            refine lv_goto (tgt := 76) hx hb dX9_dream_59 (by decide) ?_
            exact zz_iret hx hb hr hlocks hK hP hS dX9_dream_76 (by exact ⟨hC, (hJ.soft (w17.mono (by intro a k h; omega))), by rw [t0]; omega, (fun _ => by rw [zz_DMk (a := h0 + 1) w17 (by intro i h1 h2; first | (dsimp only; omega) | omega)]), (fun q => absurd q (by omega))⟩)
        · have c11 := zz_eqT c11
          refine lv_aload_n hx hb dX9_dream_35 rfl (lv_at hl 0 rfl) ?_
          refine lv_ldc (v := (-1000000001)) hx hb hown (hts (.constant RX9 93 (-1000000001)) (List.mem_cons_of_mem _ bm_138)) dX9_dream_36 ?_
          refine zz_callVi (As := [.int (-1000000001)]) (rest := []) ⟨hx, hb, hml, hown, hts⟩ hK hP hS (c_X9_error l E σ h0 (-1000000001) g0 (by omega)) (cwV 1 hts gX9_dream_X9_error rfl rfl rfl (by decide +kernel) ⟨Nat.le_of_ble_eq_true rfl, Nat.le_of_ble_eq_true rfl⟩) (g0.1) rfl rfl hl.1 rfl (Nat.le_of_ble_eq_true rfl) dX9_dream_38 ⟨Nat.zero_le _, Nat.zero_le _⟩ (fun r18 σ18 H locs q18 hP1 hS1 => ?_)
          replace hP := hP1
          replace hS := hS1
          clear hP1 hS1
          try dsimp only at q18
          obtain ⟨w18, f18⟩ := q18
          replace hC := hC.tr (w18.mono (dS24_3 h0))
          replace t0 : σ18 (h0 + 1) 2 = σ (h0 + 1) 2 := (w18 (h0 + 1) 2 (dS24_4 h0)).trans t0
          replace t1 : σ18 (h0 + 1) 3 = σ (h0 + 1) 3 := (w18 (h0 + 1) 3 (dS24_4 h0)).trans t1
          replace t2 : σ18 (h0 + 1) 0 = σ (h0 + 1) 0 := (w18 (h0 + 1) 0 (dS24_4 h0)).trans t2
          replace t3 : σ18 (h0 + 1) 4 = σ (h0 + 1) 4 := (w18 (h0 + 1) 4 (dS24_4 h0)).trans t3
          replace t4 : σ18 (h0 + 1) 5 = σ (h0 + 1) 5 := (w18 (h0 + 1) 5 (dS24_4 h0)).trans t4
          replace t5 : σ18 (h0 + 1) 6 = σ (h0 + 1) 6 := (w18 (h0 + 1) 6 (dS24_4 h0)).trans t5
          replace t6 : σ18 (h0 + 1) 1 = σ (h0 + 1) 1 := (w18 (h0 + 1) 1 (dS24_4 h0)).trans t6
          exact zz_iret hx hb hr hlocks hK hP hS dX9_dream_41 (by exact ⟨hC, (hJ.soft (w18.mono (by intro a k h; omega))), by rw [t0]; omega, (fun _ => by rw [zz_DMk (a := h0 + 1) w18 (by intro i h1 h2; first | (dsimp only; omega) | omega)]), (fun q => absurd q (by omega))⟩)
theorem gX9_person_X9_in : GoodIn wzX9_person (va_wsS RX9 47 yX9_in wzX9_in) := wz_co bm_143 (wz_co bm_144 (wz_co bm_5 (wz_in bm_145)))
theorem gX9_person_X9_error : GoodIn wzX9_person (wsV RX9 94 RX9 yX9_error wzX9_error) := wz_co bm_146 (wz_co bm_147 (wz_co bm_148 (wz_co bm_5 (wz_in bm_149))))
theorem dS24_12 (x0 : Nat) : ((x0 + 1) = x0 + 3 ∨ (x0 + 7 ≤ (x0 + 1) ∧ (x0 + 1) ≤ x0 + 11)) ∨ ((x0 + 1) = x0 + 1 ∧ ((3) = 3 ∨ (61 ≤ (3) ∧ (3) < 73))) := by omega
theorem dS24_13 (x0 : Nat) : ∀ a k : Nat, (a = (x0) + 3) → ((a = x0 + 3 ∨ (x0 + 7 ≤ a ∧ a ≤ x0 + 11)) ∨ (a = x0 + 1 ∧ (k = 3 ∨ (61 ≤ k ∧ k < 73)))) := by intro a k h; omega
set_option maxHeartbeats 4000000 in
set_option maxRecDepth 100000 in
theorem c_X9_person (l : Launch) (E : zz_E) (σ : zz_S) (h0 : Nat) (wo : Int32) (g0 : zz_M E h0) (hJ : zz_IM σ h0) : Met l yX9_person wzX9_person ({ frames := 1, cells := 0, slots := 0, locals := 22 }) (va_Pc [.ref h0, .int wo] (zz_B E σ)) (va_Qi (fun r σ1 => zz_ch (fun a k => (a = h0 + 3 ∨ (h0 + 7 ≤ a ∧ a ≤ h0 + 11)) ∨ (a = h0 + 1 ∧ (k = 3 ∨ (61 ≤ k ∧ k < 73)))) σ σ1 ∧ (zz_IM σ1 h0 ∧ ((((wo.toInt < 0 ∨ 1023 < wo.toInt) ∧ r.toInt = -1000000001 ∧ (σ1 (h0 + 1) 3).toInt = (σ (h0 + 1) 3).toInt) ∨ (0 ≤ wo.toInt ∧ wo.toInt ≤ 1023 ∧ (σ (h0 + 1) 3).toInt = 6 ∧ r.toInt = -1000000004 ∧ (σ1 (h0 + 1) 3).toInt = 6) ∨ (0 ≤ wo.toInt ∧ wo.toInt ≤ 1023 ∧ (σ (h0 + 1) 3).toInt < 6 ∧ r.toInt = (σ (h0 + 1) 3).toInt ∧ (σ1 (h0 + 1) 3).toInt = (σ (h0 + 1) 3).toInt + 1)) ∧ (r.toInt < 0 → zz_PM 0 σ1 (h0 + 1) = zz_PM 0 σ (h0 + 1) ∧ zz_PM 1 σ1 (h0 + 1) = zz_PM 1 σ (h0 + 1)) ∧ (0 ≤ r.toInt → zz_PM 0 σ1 (h0 + 1) = zz_wn (zz_PM 0 σ (h0 + 1)) (σ (h0 + 1) 3).toInt wo.toInt ∧ zz_PM 1 σ1 (h0 + 1) = zz_wn (zz_PM 1 σ (h0 + 1)) (σ (h0 + 1) 3).toInt 0)))) (zz_B E) (zz_A E)) 0 0 (zz_A E) := by
  refine zz_met (cc := cX9_person) (maxL := 3) (ret := (some .int)) (by decide) rfl (Nat.le_of_ble_eq_true rfl) ?_
  intro p e s m args below meth c ls hx hb hr hts hown hlocks hml hK hP hS hl
  have hl : lv_has ls 3 [(0, .ref h0), (1, .int wo)] := hl
  have hown : s.vm.findClass RX9 = some m.cls := hown
  have hi9 : ∀ w ∈ wsX90, w ∈ wzX9_person := fun w h => List.mem_cons_of_mem _ (hbw9 w h)
  have k_m1000000004 : ((-1000000004) : Int32).toInt = -1000000004 := by decide +kernel
  have k_m1000000001 : ((-1000000001) : Int32).toInt = -1000000001 := by decide +kernel
  have k_0 : (0 : Int32).toInt = 0 := by decide +kernel
  have k_1 : (1 : Int32).toInt = 1 := by decide +kernel
  have k_2 : (2 : Int32).toInt = 2 := by decide +kernel
  have k_3 : (3 : Int32).toInt = 3 := by decide +kernel
  have k_6 : (6 : Int32).toInt = 6 := by decide +kernel
  have k_61 : (61 : Int32).toInt = 61 := by decide +kernel
  have k_1023 : (1023 : Int32).toInt = 1023 := by decide +kernel
  replace t0 : σ (h0 + 1) 2 = σ (h0 + 1) 2 := rfl
  replace t1 : σ (h0 + 1) 3 = σ (h0 + 1) 3 := rfl
  replace t2 : σ (h0 + 1) 0 = σ (h0 + 1) 0 := rfl
  replace t3 : σ (h0 + 1) 4 = σ (h0 + 1) 4 := rfl
  replace t4 : σ (h0 + 1) 5 = σ (h0 + 1) 5 := rfl
  replace t5 : σ (h0 + 1) 6 = σ (h0 + 1) 6 := rfl
  replace t6 : σ (h0 + 1) 1 = σ (h0 + 1) 1 := rfl
  have hC : zz_ch (fun a k => (a = h0 + 3 ∨ (h0 + 7 ≤ a ∧ a ≤ h0 + 11)) ∨ (a = h0 + 1 ∧ (k = 3 ∨ (61 ≤ k ∧ k < 73)))) σ σ := zz_ch.rf σ
  have hI := hJ.1
  obtain ⟨hh, hsl, hd, hp, htc, hwc, hM, hT⟩ := id hI
  have hz5 := hJ.2.2.1
  have htr := hJ.2.2.2
  refine lv_iload_n hx hb dX9_person_0 rfl (lv_at hl 1 rfl) ?_
  refine lv_iconst (v := 0) hx hb dX9_person_1 (by decide) ?_
  refine lv_sipush (v := 1023) hx hb dX9_person_2 (by decide) ?_
  refine zz_callSp (As := [.int wo, .int 0, .int 1023]) (rest := []) ⟨hx, hb, hml, hown, hts⟩ hK hP hS (c_X9_in l E σ wo 0 1023) (va_cwS 3 hts gX9_person_X9_in rfl rfl rfl (by decide +kernel) ⟨Nat.le_of_ble_eq_true rfl, Nat.le_of_ble_eq_true rfl⟩) rfl hl.1 rfl (Nat.le_of_ble_eq_true rfl) dX9_person_5 ⟨Nat.zero_le _, Nat.zero_le _⟩ (fun r1 H locs f1 hP1 hS1 => ?_)
  replace hP := hP1
  replace hS := hS1
  clear hP1 hS1
  refine lv_if_ne (tgt := 18) hx hb dX9_person_8 (by decide) (fun c2 => ?_) (fun c2 => ?_)
  · have c2 := zz_neT c2
    refine lv_aload_n hx hb dX9_person_18 rfl (lv_at hl 0 rfl) ?_
    refine zz_getr hx hb hts hi9 hown hK hP (g0.1) rfl 0 (by decide) (hts (.fieldLink RX9 9 "NoonLawModel" "row" "[I") (List.mem_cons_of_mem _ bm_93)) rfl rfl dX9_person_19 ?_
    refine lv_iconst (v := 3) hx hb dX9_person_22 (by decide) ?_
    refine zz_ialc hx hb hK hP (g0.2.1) 3 (by decide) (by decide) t1 dX9_person_23 ?_
    refine lv_istore_n (lv' := [(2, .int (σ (h0 + 1) 3)), (0, .ref h0), (1, .int wo)]) hx hb dX9_person_24 rfl hl (by decide) rfl (fun ls hl => ?_)
    refine lv_iload_n hx hb dX9_person_25 rfl (lv_at hl 0 rfl) ?_
    refine lv_bipush (v := 6) hx hb dX9_person_26 (by decide) ?_
    refine lv_icmp_ne (tgt := 38) hx hb dX9_person_28 (by decide) (fun c4 => ?_) (fun c4 => ?_)
    · have c4 := zz_neT c4
      refine lv_aload_n hx hb dX9_person_38 rfl (lv_at hl 1 rfl) ?_
      refine zz_getr hx hb hts hi9 hown hK hP (g0.1) rfl 0 (by decide) (hts (.fieldLink RX9 9 "NoonLawModel" "row" "[I") (List.mem_cons_of_mem _ bm_93)) rfl rfl dX9_person_39 ?_
      refine lv_iconst (v := 3) hx hb dX9_person_42 (by decide) ?_
      refine lv_dup2_11 hx hb dX9_person_43 rfl rfl ?_
      refine zz_ialc hx hb hK hP (g0.2.1) 3 (by decide) (by decide) t1 dX9_person_44 ?_
      refine lv_iconst (v := 1) hx hb dX9_person_45 (by decide) ?_
      refine lv_iadd hx hb dX9_person_46 ?_
      refine lv_topi (fun n6 e6 => ?_)
      have f6 : n6.toInt = (σ (h0 + 1) 3).toInt + (1 : Int32).toInt := zz_addT e6 (by omega) (by omega)
      refine zz_iasc hx hb hK hP hS (g0.2.1) 3 (by decide) (by decide) dX9_person_47 (fun σ7 H locs w7 hP1 hS1 => ?_)
      replace hP := hP1
      replace hS := hS1
      clear hP1 hS1
      replace hC := hC.u w7 (dS24_12 h0)
      replace t0 : σ7 (h0 + 1) 2 = σ (h0 + 1) 2 := (zz_w (b := (h0 + 1)) (j := 2) w7 (fun q9 => absurd q9.2 (by decide))).trans t0
      replace t1 : σ7 (h0 + 1) 3 = n6 := zz_w1 w7
      replace t2 : σ7 (h0 + 1) 0 = σ (h0 + 1) 0 := (zz_w (b := (h0 + 1)) (j := 0) w7 (fun q9 => absurd q9.2 (by decide))).trans t2
      replace t3 : σ7 (h0 + 1) 4 = σ (h0 + 1) 4 := (zz_w (b := (h0 + 1)) (j := 4) w7 (fun q9 => absurd q9.2 (by decide))).trans t3
      replace t4 : σ7 (h0 + 1) 5 = σ (h0 + 1) 5 := (zz_w (b := (h0 + 1)) (j := 5) w7 (fun q9 => absurd q9.2 (by decide))).trans t4
      replace t5 : σ7 (h0 + 1) 6 = σ (h0 + 1) 6 := (zz_w (b := (h0 + 1)) (j := 6) w7 (fun q9 => absurd q9.2 (by decide))).trans t5
      replace t6 : σ7 (h0 + 1) 1 = σ (h0 + 1) 1 := (zz_w (b := (h0 + 1)) (j := 1) w7 (fun q9 => absurd q9.2 (by decide))).trans t6
      refine lv_aload_n hx hb dX9_person_48 rfl (lv_at hl 1 rfl) ?_
      refine zz_getr hx hb hts hi9 hown hK hP (g0.1) rfl 0 (by decide) (hts (.fieldLink RX9 9 "NoonLawModel" "row" "[I") (List.mem_cons_of_mem _ bm_93)) rfl rfl dX9_person_49 ?_
      refine lv_bipush (v := 61) hx hb dX9_person_52 (by decide) ?_
      refine lv_iconst (v := 2) hx hb dX9_person_54 (by decide) ?_
      refine lv_iload_n hx hb dX9_person_55 rfl (lv_at hl 0 rfl) ?_
      refine lv_imul hx hb dX9_person_56 ?_
      refine lv_topi (fun n8 e8 => ?_)
      have f8 : n8.toInt = 2 * (σ (h0 + 1) 3).toInt := zz_mulL 2 e8 (by decide) (by omega) (by omega)
      refine lv_iadd hx hb dX9_person_57 ?_
      refine lv_topi (fun n9 e9 => ?_)
      have f9 : n9.toInt = (61 : Int32).toInt + (n8).toInt := zz_addT e9 (by omega) (by omega)
      refine lv_iload_n hx hb dX9_person_58 rfl (lv_at hl 2 rfl) ?_
      refine zz_iast hx hb hK hP hS (g0.2.1) (by omega) (by omega) dX9_person_59 (fun j10 σ10 H locs q10 r10 w10 hP1 hS1 => ?_)
      replace hP := hP1
      replace hS := hS1
      clear hP1 hS1
      replace hC := hC.u w10 (by first | (dsimp only; omega) | omega | (dsimp only; done))
      replace t0 : σ10 (h0 + 1) 2 = σ (h0 + 1) 2 := (zz_w (b := (h0 + 1)) (j := 2) w10 (by omega)).trans t0
      replace t1 : σ10 (h0 + 1) 3 = n6 := (zz_w (b := (h0 + 1)) (j := 3) w10 (by omega)).trans t1
      replace t2 : σ10 (h0 + 1) 0 = σ (h0 + 1) 0 := (zz_w (b := (h0 + 1)) (j := 0) w10 (by omega)).trans t2
      replace t3 : σ10 (h0 + 1) 4 = σ (h0 + 1) 4 := (zz_w (b := (h0 + 1)) (j := 4) w10 (by omega)).trans t3
      replace t4 : σ10 (h0 + 1) 5 = σ (h0 + 1) 5 := (zz_w (b := (h0 + 1)) (j := 5) w10 (by omega)).trans t4
      replace t5 : σ10 (h0 + 1) 6 = σ (h0 + 1) 6 := (zz_w (b := (h0 + 1)) (j := 6) w10 (by omega)).trans t5
      replace t6 : σ10 (h0 + 1) 1 = σ (h0 + 1) 1 := (zz_w (b := (h0 + 1)) (j := 1) w10 (by omega)).trans t6
      refine lv_aload_n hx hb dX9_person_60 rfl (lv_at hl 1 rfl) ?_
      refine zz_getr hx hb hts hi9 hown hK hP (g0.1) rfl 0 (by decide) (hts (.fieldLink RX9 9 "NoonLawModel" "row" "[I") (List.mem_cons_of_mem _ bm_93)) rfl rfl dX9_person_61 ?_
      refine lv_bipush (v := 61) hx hb dX9_person_64 (by decide) ?_
      refine lv_iconst (v := 2) hx hb dX9_person_66 (by decide) ?_
      refine lv_iload_n hx hb dX9_person_67 rfl (lv_at hl 0 rfl) ?_
      refine lv_imul hx hb dX9_person_68 ?_
      refine lv_topi (fun n11 e11 => ?_)
      have f11 : n11.toInt = 2 * (σ (h0 + 1) 3).toInt := zz_mulL 2 e11 (by decide) (by omega) (by omega)
      refine lv_iadd hx hb dX9_person_69 ?_
      refine lv_topi (fun n12 e12 => ?_)
      have f12 : n12.toInt = (61 : Int32).toInt + (n11).toInt := zz_addT e12 (by omega) (by omega)
      refine lv_iconst (v := 1) hx hb dX9_person_70 (by decide) ?_
      refine lv_iadd hx hb dX9_person_71 ?_
      refine lv_topi (fun n13 e13 => ?_)
      have f13 : n13.toInt = (n12).toInt + (1 : Int32).toInt := zz_addT e13 (by omega) (by omega)
      refine lv_iconst (v := 0) hx hb dX9_person_72 (by decide) ?_
      refine zz_iast hx hb hK hP hS (g0.2.1) (by omega) (by omega) dX9_person_73 (fun j14 σ14 H locs q14 r14 w14 hP1 hS1 => ?_)
      replace hP := hP1
      replace hS := hS1
      clear hP1 hS1
      replace hC := hC.u w14 (by first | (dsimp only; omega) | omega | (dsimp only; done))
      replace t0 : σ14 (h0 + 1) 2 = σ (h0 + 1) 2 := (zz_w (b := (h0 + 1)) (j := 2) w14 (by omega)).trans t0
      replace t1 : σ14 (h0 + 1) 3 = n6 := (zz_w (b := (h0 + 1)) (j := 3) w14 (by omega)).trans t1
      replace t2 : σ14 (h0 + 1) 0 = σ (h0 + 1) 0 := (zz_w (b := (h0 + 1)) (j := 0) w14 (by omega)).trans t2
      replace t3 : σ14 (h0 + 1) 4 = σ (h0 + 1) 4 := (zz_w (b := (h0 + 1)) (j := 4) w14 (by omega)).trans t3
      replace t4 : σ14 (h0 + 1) 5 = σ (h0 + 1) 5 := (zz_w (b := (h0 + 1)) (j := 5) w14 (by omega)).trans t4
      replace t5 : σ14 (h0 + 1) 6 = σ (h0 + 1) 6 := (zz_w (b := (h0 + 1)) (j := 6) w14 (by omega)).trans t5
      replace t6 : σ14 (h0 + 1) 1 = σ (h0 + 1) 1 := (zz_w (b := (h0 + 1)) (j := 1) w14 (by omega)).trans t6
      refine lv_iload_n hx hb dX9_person_74 rfl (lv_at hl 0 rfl) ?_
      exact zz_iret hx hb hr hlocks hK hP hS dX9_person_75 (by exact ⟨hC, (hJ.row (hI.scal (fun k hk => hC _ _ (by first | (dsimp only; omega) | omega)) (fun j hj => by rw [hC _ _ (by first | (dsimp only; omega) | omega)]; exact hM j hj) (by rw [t2]; omega) (by rw [t3]; omega) (by rw [t0]; omega) (by rw [t1]; omega) (by rw [t4]; omega) (by rw [t5]; omega)) (hC.mono (by intro a k h; first | (dsimp only at h ⊢; omega) | omega))), by rw [t1]; omega, (fun q => absurd q (by omega)), (fun _ => ⟨by rw [zz_PMo (f := 0) (a := h0 + 1) w14 (by intro i hi hb; omega), zz_PMw (d := (σ (h0 + 1) 3).toInt) (σ (h0 + 1) 3).toInt.toNat 0 w10 (by omega) (by omega) (by omega) (by decide), zz_PMo (f := 0) (a := h0 + 1) w7 (by intro i hi hb; omega)], by rw [zz_PMw (d := (σ (h0 + 1) 3).toInt) (σ (h0 + 1) 3).toInt.toNat 1 w14 (by omega) (by omega) (by omega) (by decide), zz_PMo (f := 1) (a := h0 + 1) w10 (by intro i hi hb; omega), zz_PMo (f := 1) (a := h0 + 1) w7 (by intro i hi hb; omega), k_0]⟩)⟩)
    · have c4 := zz_eqT c4
      refine lv_aload_n hx hb dX9_person_31 rfl (lv_at hl 1 rfl) ?_
      refine lv_ldc (v := (-1000000004)) hx hb hown (hts (.constant RX9 97 (-1000000004)) (List.mem_cons_of_mem _ bm_139)) dX9_person_32 ?_
      refine zz_callVi (As := [.int (-1000000004)]) (rest := []) ⟨hx, hb, hml, hown, hts⟩ hK hP hS (c_X9_error l E σ h0 (-1000000004) g0 (by omega)) (cwV 1 hts gX9_person_X9_error rfl rfl rfl (by decide +kernel) ⟨Nat.le_of_ble_eq_true rfl, Nat.le_of_ble_eq_true rfl⟩) (g0.1) rfl rfl hl.1 rfl (Nat.le_of_ble_eq_true rfl) dX9_person_34 ⟨Nat.zero_le _, Nat.zero_le _⟩ (fun r15 σ15 H locs q15 hP1 hS1 => ?_)
      replace hP := hP1
      replace hS := hS1
      clear hP1 hS1
      try dsimp only at q15
      obtain ⟨w15, f15⟩ := q15
      replace hC := hC.tr (w15.mono (dS24_13 h0))
      replace t0 : σ15 (h0 + 1) 2 = σ (h0 + 1) 2 := (w15 (h0 + 1) 2 (dS24_4 h0)).trans t0
      replace t1 : σ15 (h0 + 1) 3 = σ (h0 + 1) 3 := (w15 (h0 + 1) 3 (dS24_4 h0)).trans t1
      replace t2 : σ15 (h0 + 1) 0 = σ (h0 + 1) 0 := (w15 (h0 + 1) 0 (dS24_4 h0)).trans t2
      replace t3 : σ15 (h0 + 1) 4 = σ (h0 + 1) 4 := (w15 (h0 + 1) 4 (dS24_4 h0)).trans t3
      replace t4 : σ15 (h0 + 1) 5 = σ (h0 + 1) 5 := (w15 (h0 + 1) 5 (dS24_4 h0)).trans t4
      replace t5 : σ15 (h0 + 1) 6 = σ (h0 + 1) 6 := (w15 (h0 + 1) 6 (dS24_4 h0)).trans t5
      replace t6 : σ15 (h0 + 1) 1 = σ (h0 + 1) 1 := (w15 (h0 + 1) 1 (dS24_4 h0)).trans t6
      exact zz_iret hx hb hr hlocks hK hP hS dX9_person_37 (by exact ⟨hC, (hJ.row (hI.scal (fun k hk => hC _ _ (by first | (dsimp only; omega) | omega)) (fun j hj => by rw [hC _ _ (by first | (dsimp only; omega) | omega)]; exact hM j hj) (by rw [t2]; omega) (by rw [t3]; omega) (by rw [t0]; omega) (by rw [t1]; omega) (by rw [t4]; omega) (by rw [t5]; omega)) (hC.mono (by intro a k h; first | (dsimp only at h ⊢; omega) | omega))), by rw [t1]; omega, (fun _ => ⟨by rw [zz_PMk (f := 0) (a := h0 + 1) w15 (by intro i hi; first | (dsimp only; omega) | omega)], by rw [zz_PMk (f := 1) (a := h0 + 1) w15 (by intro i hi; first | (dsimp only; omega) | omega)]⟩), (fun q => absurd q (by omega))⟩)
  · have c2 := zz_eqT c2
    refine lv_aload_n hx hb dX9_person_11 rfl (lv_at hl 0 rfl) ?_
    refine lv_ldc (v := (-1000000001)) hx hb hown (hts (.constant RX9 93 (-1000000001)) (List.mem_cons_of_mem _ bm_138)) dX9_person_12 ?_
    refine zz_callVi (As := [.int (-1000000001)]) (rest := []) ⟨hx, hb, hml, hown, hts⟩ hK hP hS (c_X9_error l E σ h0 (-1000000001) g0 (by omega)) (cwV 1 hts gX9_person_X9_error rfl rfl rfl (by decide +kernel) ⟨Nat.le_of_ble_eq_true rfl, Nat.le_of_ble_eq_true rfl⟩) (g0.1) rfl rfl hl.1 rfl (Nat.le_of_ble_eq_true rfl) dX9_person_14 ⟨Nat.zero_le _, Nat.zero_le _⟩ (fun r16 σ16 H locs q16 hP1 hS1 => ?_)
    replace hP := hP1
    replace hS := hS1
    clear hP1 hS1
    try dsimp only at q16
    obtain ⟨w16, f16⟩ := q16
    replace hC := hC.tr (w16.mono (dS24_13 h0))
    replace t0 : σ16 (h0 + 1) 2 = σ (h0 + 1) 2 := (w16 (h0 + 1) 2 (dS24_4 h0)).trans t0
    replace t1 : σ16 (h0 + 1) 3 = σ (h0 + 1) 3 := (w16 (h0 + 1) 3 (dS24_4 h0)).trans t1
    replace t2 : σ16 (h0 + 1) 0 = σ (h0 + 1) 0 := (w16 (h0 + 1) 0 (dS24_4 h0)).trans t2
    replace t3 : σ16 (h0 + 1) 4 = σ (h0 + 1) 4 := (w16 (h0 + 1) 4 (dS24_4 h0)).trans t3
    replace t4 : σ16 (h0 + 1) 5 = σ (h0 + 1) 5 := (w16 (h0 + 1) 5 (dS24_4 h0)).trans t4
    replace t5 : σ16 (h0 + 1) 6 = σ (h0 + 1) 6 := (w16 (h0 + 1) 6 (dS24_4 h0)).trans t5
    replace t6 : σ16 (h0 + 1) 1 = σ (h0 + 1) 1 := (w16 (h0 + 1) 1 (dS24_4 h0)).trans t6
    exact zz_iret hx hb hr hlocks hK hP hS dX9_person_17 (by exact ⟨hC, (hJ.row (hI.scal (fun k hk => hC _ _ (by first | (dsimp only; omega) | omega)) (fun j hj => by rw [hC _ _ (by first | (dsimp only; omega) | omega)]; exact hM j hj) (by rw [t2]; omega) (by rw [t3]; omega) (by rw [t0]; omega) (by rw [t1]; omega) (by rw [t4]; omega) (by rw [t5]; omega)) (hC.mono (by intro a k h; first | (dsimp only at h ⊢; omega) | omega))), by rw [t1]; omega, (fun _ => ⟨by rw [zz_PMk (f := 0) (a := h0 + 1) w16 (by intro i hi; first | (dsimp only; omega) | omega)], by rw [zz_PMk (f := 1) (a := h0 + 1) w16 (by intro i hi; first | (dsimp only; omega) | omega)]⟩), (fun q => absurd q (by omega))⟩)
theorem gX9_tell_X9_error : GoodIn wzX9_tell (wsV RX9 94 RX9 yX9_error wzX9_error) := wz_co bm_146 (wz_co bm_147 (wz_co bm_148 (wz_co bm_5 (wz_in bm_149))))
theorem dS24_14 (x0 : Nat) : ((x0 + 1) = x0 + 3 ∨ (x0 + 7 ≤ (x0 + 1) ∧ (x0 + 1) ≤ x0 + 11)) ∨ ((x0 + 1) = x0 + 1 ∧ ((6) = 6 ∨ (133 ≤ (6) ∧ (6) < 157))) := by omega
theorem dS24_15 (x0 : Nat) : ∀ a k : Nat, (a = (x0) + 3) → ((a = x0 + 3 ∨ (x0 + 7 ≤ a ∧ a ≤ x0 + 11)) ∨ (a = x0 + 1 ∧ (k = 6 ∨ (133 ≤ k ∧ k < 157)))) := by intro a k h; omega
set_option maxHeartbeats 4000000 in
set_option maxRecDepth 100000 in
theorem c_X9_tell (l : Launch) (E : zz_E) (σ : zz_S) (h0 : Nat) (v : Int32) (g0 : zz_M E h0) (hJ : zz_IM σ h0) : Met l yX9_tell wzX9_tell ({ frames := 1, cells := 0, slots := 0, locals := 21 }) (va_Pc [.ref h0, .int v] (zz_B E σ)) (va_Qi (fun r σ1 => zz_ch (fun a k => (a = h0 + 3 ∨ (h0 + 7 ≤ a ∧ a ≤ h0 + 11)) ∨ (a = h0 + 1 ∧ (k = 6 ∨ (133 ≤ k ∧ k < 157)))) σ σ1 ∧ (zz_IM σ1 h0 ∧ ((((σ (h0 + 1) 6).toInt = 24 ∧ r.toInt = -1000000004 ∧ (σ1 (h0 + 1) 6).toInt = 24) ∨ ((σ (h0 + 1) 6).toInt < 24 ∧ r.toInt = (σ (h0 + 1) 6).toInt + 1 ∧ (σ1 (h0 + 1) 6).toInt = (σ (h0 + 1) 6).toInt + 1)) ∧ (r.toInt < 0 → zy_wv σ1 (h0 + 1) 133 (σ1 (h0 + 1) 6).toInt = zy_wv σ (h0 + 1) 133 (σ (h0 + 1) 6).toInt) ∧ (0 ≤ r.toInt → zy_wv σ1 (h0 + 1) 133 (σ1 (h0 + 1) 6).toInt = zz_wn (zy_wv σ (h0 + 1) 133 (σ (h0 + 1) 6).toInt) (σ (h0 + 1) 6).toInt v.toInt)))) (zz_B E) (zz_A E)) 0 0 (zz_A E) := by
  refine zz_met (cc := cX9_tell) (maxL := 2) (ret := (some .int)) (by decide) rfl (Nat.le_of_ble_eq_true rfl) ?_
  intro p e s m args below meth c ls hx hb hr hts hown hlocks hml hK hP hS hl
  have hl : lv_has ls 2 [(0, .ref h0), (1, .int v)] := hl
  have hown : s.vm.findClass RX9 = some m.cls := hown
  have hi9 : ∀ w ∈ wsX90, w ∈ wzX9_tell := fun w h => List.mem_cons_of_mem _ (hbw9 w h)
  have k_m1000000004 : ((-1000000004) : Int32).toInt = -1000000004 := by decide +kernel
  have k_1 : (1 : Int32).toInt = 1 := by decide +kernel
  have k_6 : (6 : Int32).toInt = 6 := by decide +kernel
  have k_24 : (24 : Int32).toInt = 24 := by decide +kernel
  have k_133 : (133 : Int32).toInt = 133 := by decide +kernel
  replace t0 : σ (h0 + 1) 2 = σ (h0 + 1) 2 := rfl
  replace t1 : σ (h0 + 1) 3 = σ (h0 + 1) 3 := rfl
  replace t2 : σ (h0 + 1) 0 = σ (h0 + 1) 0 := rfl
  replace t3 : σ (h0 + 1) 4 = σ (h0 + 1) 4 := rfl
  replace t4 : σ (h0 + 1) 5 = σ (h0 + 1) 5 := rfl
  replace t5 : σ (h0 + 1) 6 = σ (h0 + 1) 6 := rfl
  replace t6 : σ (h0 + 1) 1 = σ (h0 + 1) 1 := rfl
  have hC : zz_ch (fun a k => (a = h0 + 3 ∨ (h0 + 7 ≤ a ∧ a ≤ h0 + 11)) ∨ (a = h0 + 1 ∧ (k = 6 ∨ (133 ≤ k ∧ k < 157)))) σ σ := zz_ch.rf σ
  have hI := hJ.1
  obtain ⟨hh, hsl, hd, hp, htc, hwc, hM, hT⟩ := id hI
  have hz5 := hJ.2.2.1
  have htr := hJ.2.2.2
  refine lv_aload_n hx hb dX9_tell_0 rfl (lv_at hl 0 rfl) ?_
  refine zz_getr hx hb hts hi9 hown hK hP (g0.1) rfl 0 (by decide) (hts (.fieldLink RX9 9 "NoonLawModel" "row" "[I") (List.mem_cons_of_mem _ bm_93)) rfl rfl dX9_tell_1 ?_
  refine lv_bipush (v := 6) hx hb dX9_tell_4 (by decide) ?_
  refine zz_ialc hx hb hK hP (g0.2.1) 6 (by decide) (by decide) t5 dX9_tell_6 ?_
  refine lv_bipush (v := 24) hx hb dX9_tell_7 (by decide) ?_
  refine lv_icmp_ne (tgt := 19) hx hb dX9_tell_9 (by decide) (fun c2 => ?_) (fun c2 => ?_)
  · have c2 := zz_neT c2
    refine lv_aload_n hx hb dX9_tell_19 rfl (lv_at hl 0 rfl) ?_
    refine zz_getr hx hb hts hi9 hown hK hP (g0.1) rfl 0 (by decide) (hts (.fieldLink RX9 9 "NoonLawModel" "row" "[I") (List.mem_cons_of_mem _ bm_93)) rfl rfl dX9_tell_20 ?_
    refine lv_sipush (v := 133) hx hb dX9_tell_23 (by decide) ?_
    refine lv_aload_n hx hb dX9_tell_26 rfl (lv_at hl 0 rfl) ?_
    refine zz_getr hx hb hts hi9 hown hK hP (g0.1) rfl 0 (by decide) (hts (.fieldLink RX9 9 "NoonLawModel" "row" "[I") (List.mem_cons_of_mem _ bm_93)) rfl rfl dX9_tell_27 ?_
    refine lv_bipush (v := 6) hx hb dX9_tell_30 (by decide) ?_
    refine zz_ialc hx hb hK hP (g0.2.1) 6 (by decide) (by decide) t5 dX9_tell_32 ?_
    refine lv_iadd hx hb dX9_tell_33 ?_
    refine lv_topi (fun n4 e4 => ?_)
    have f4 : n4.toInt = (133 : Int32).toInt + (σ (h0 + 1) 6).toInt := zz_addT e4 (by omega) (by omega)
    refine lv_iload_n hx hb dX9_tell_34 rfl (lv_at hl 1 rfl) ?_
    refine zz_iast hx hb hK hP hS (g0.2.1) (by omega) (by omega) dX9_tell_35 (fun j5 σ5 H locs q5 r5 w5 hP1 hS1 => ?_)
    replace hP := hP1
    replace hS := hS1
    clear hP1 hS1
    replace hC := hC.u w5 (by first | (dsimp only; omega) | omega | (dsimp only; done))
    replace t0 : σ5 (h0 + 1) 2 = σ (h0 + 1) 2 := (zz_w (b := (h0 + 1)) (j := 2) w5 (by omega)).trans t0
    replace t1 : σ5 (h0 + 1) 3 = σ (h0 + 1) 3 := (zz_w (b := (h0 + 1)) (j := 3) w5 (by omega)).trans t1
    replace t2 : σ5 (h0 + 1) 0 = σ (h0 + 1) 0 := (zz_w (b := (h0 + 1)) (j := 0) w5 (by omega)).trans t2
    replace t3 : σ5 (h0 + 1) 4 = σ (h0 + 1) 4 := (zz_w (b := (h0 + 1)) (j := 4) w5 (by omega)).trans t3
    replace t4 : σ5 (h0 + 1) 5 = σ (h0 + 1) 5 := (zz_w (b := (h0 + 1)) (j := 5) w5 (by omega)).trans t4
    replace t5 : σ5 (h0 + 1) 6 = σ (h0 + 1) 6 := (zz_w (b := (h0 + 1)) (j := 6) w5 (by omega)).trans t5
    replace t6 : σ5 (h0 + 1) 1 = σ (h0 + 1) 1 := (zz_w (b := (h0 + 1)) (j := 1) w5 (by omega)).trans t6
    refine lv_aload_n hx hb dX9_tell_36 rfl (lv_at hl 0 rfl) ?_
    refine zz_getr hx hb hts hi9 hown hK hP (g0.1) rfl 0 (by decide) (hts (.fieldLink RX9 9 "NoonLawModel" "row" "[I") (List.mem_cons_of_mem _ bm_93)) rfl rfl dX9_tell_37 ?_
    refine lv_bipush (v := 6) hx hb dX9_tell_40 (by decide) ?_
    refine lv_dup2_11 hx hb dX9_tell_42 rfl rfl ?_
    refine zz_ialc hx hb hK hP (g0.2.1) 6 (by decide) (by decide) t5 dX9_tell_43 ?_
    refine lv_iconst (v := 1) hx hb dX9_tell_44 (by decide) ?_
    refine lv_iadd hx hb dX9_tell_45 ?_
    refine lv_topi (fun n7 e7 => ?_)
    have f7 : n7.toInt = (σ (h0 + 1) 6).toInt + (1 : Int32).toInt := zz_addT e7 (by omega) (by omega)
    refine zz_iasc hx hb hK hP hS (g0.2.1) 6 (by decide) (by decide) dX9_tell_46 (fun σ8 H locs w8 hP1 hS1 => ?_)
    replace hP := hP1
    replace hS := hS1
    clear hP1 hS1
    replace hC := hC.u w8 (dS24_14 h0)
    replace t0 : σ8 (h0 + 1) 2 = σ (h0 + 1) 2 := (zz_w (b := (h0 + 1)) (j := 2) w8 (fun q9 => absurd q9.2 (by decide))).trans t0
    replace t1 : σ8 (h0 + 1) 3 = σ (h0 + 1) 3 := (zz_w (b := (h0 + 1)) (j := 3) w8 (fun q9 => absurd q9.2 (by decide))).trans t1
    replace t2 : σ8 (h0 + 1) 0 = σ (h0 + 1) 0 := (zz_w (b := (h0 + 1)) (j := 0) w8 (fun q9 => absurd q9.2 (by decide))).trans t2
    replace t3 : σ8 (h0 + 1) 4 = σ (h0 + 1) 4 := (zz_w (b := (h0 + 1)) (j := 4) w8 (fun q9 => absurd q9.2 (by decide))).trans t3
    replace t4 : σ8 (h0 + 1) 5 = σ (h0 + 1) 5 := (zz_w (b := (h0 + 1)) (j := 5) w8 (fun q9 => absurd q9.2 (by decide))).trans t4
    replace t5 : σ8 (h0 + 1) 6 = n7 := zz_w1 w8
    replace t6 : σ8 (h0 + 1) 1 = σ (h0 + 1) 1 := (zz_w (b := (h0 + 1)) (j := 1) w8 (fun q9 => absurd q9.2 (by decide))).trans t6
    refine lv_aload_n hx hb dX9_tell_47 rfl (lv_at hl 0 rfl) ?_
    refine zz_getr hx hb hts hi9 hown hK hP (g0.1) rfl 0 (by decide) (hts (.fieldLink RX9 9 "NoonLawModel" "row" "[I") (List.mem_cons_of_mem _ bm_93)) rfl rfl dX9_tell_48 ?_
    refine lv_bipush (v := 6) hx hb dX9_tell_51 (by decide) ?_
    refine zz_ialc hx hb hK hP (g0.2.1) 6 (by decide) (by decide) t5 dX9_tell_53 ?_
    exact zz_iret hx hb hr hlocks hK hP hS dX9_tell_54 (by exact ⟨hC, (hJ.row (hI.scal (fun k hk => hC _ _ (by first | (dsimp only; omega) | omega)) (fun j hj => by rw [hC _ _ (by first | (dsimp only; omega) | omega)]; exact hM j hj) (by rw [t2]; omega) (by rw [t3]; omega) (by rw [t0]; omega) (by rw [t1]; omega) (by rw [t4]; omega) (by rw [t5]; omega)) (hC.mono (by intro a k h; first | (dsimp only at h ⊢; omega) | omega))), by rw [t5]; omega, (fun q => absurd q (by omega)), (fun _ => zy_wv.up (j := (σ (h0 + 1) 6).toInt.toNat) (w := v) (by omega) (by omega) (by rw [t5]; omega) rfl (by rw [w8, zz_un (by omega), w5, show 133 + (σ (h0 + 1) 6).toInt.toNat = j5 from by omega, zz_us]) (fun k hk hne => by rw [w8, zz_un (by omega), w5, zz_un (by omega)]))⟩)
  · have c2 := zz_eqT c2
    refine lv_aload_n hx hb dX9_tell_12 rfl (lv_at hl 0 rfl) ?_
    refine lv_ldc (v := (-1000000004)) hx hb hown (hts (.constant RX9 97 (-1000000004)) (List.mem_cons_of_mem _ bm_139)) dX9_tell_13 ?_
    refine zz_callVi (As := [.int (-1000000004)]) (rest := []) ⟨hx, hb, hml, hown, hts⟩ hK hP hS (c_X9_error l E σ h0 (-1000000004) g0 (by omega)) (cwV 1 hts gX9_tell_X9_error rfl rfl rfl (by decide +kernel) ⟨Nat.le_of_ble_eq_true rfl, Nat.le_of_ble_eq_true rfl⟩) (g0.1) rfl rfl hl.1 rfl (Nat.le_of_ble_eq_true rfl) dX9_tell_15 ⟨Nat.zero_le _, Nat.zero_le _⟩ (fun r10 σ10 H locs q10 hP1 hS1 => ?_)
    replace hP := hP1
    replace hS := hS1
    clear hP1 hS1
    try dsimp only at q10
    obtain ⟨w10, f10⟩ := q10
    replace hC := hC.tr (w10.mono (dS24_15 h0))
    replace t0 : σ10 (h0 + 1) 2 = σ (h0 + 1) 2 := (w10 (h0 + 1) 2 (dS24_4 h0)).trans t0
    replace t1 : σ10 (h0 + 1) 3 = σ (h0 + 1) 3 := (w10 (h0 + 1) 3 (dS24_4 h0)).trans t1
    replace t2 : σ10 (h0 + 1) 0 = σ (h0 + 1) 0 := (w10 (h0 + 1) 0 (dS24_4 h0)).trans t2
    replace t3 : σ10 (h0 + 1) 4 = σ (h0 + 1) 4 := (w10 (h0 + 1) 4 (dS24_4 h0)).trans t3
    replace t4 : σ10 (h0 + 1) 5 = σ (h0 + 1) 5 := (w10 (h0 + 1) 5 (dS24_4 h0)).trans t4
    replace t5 : σ10 (h0 + 1) 6 = σ (h0 + 1) 6 := (w10 (h0 + 1) 6 (dS24_4 h0)).trans t5
    replace t6 : σ10 (h0 + 1) 1 = σ (h0 + 1) 1 := (w10 (h0 + 1) 1 (dS24_4 h0)).trans t6
    exact zz_iret hx hb hr hlocks hK hP hS dX9_tell_18 (by exact ⟨hC, (hJ.row (hI.scal (fun k hk => hC _ _ (by first | (dsimp only; omega) | omega)) (fun j hj => by rw [hC _ _ (by first | (dsimp only; omega) | omega)]; exact hM j hj) (by rw [t2]; omega) (by rw [t3]; omega) (by rw [t0]; omega) (by rw [t1]; omega) (by rw [t4]; omega) (by rw [t5]; omega)) (hC.mono (by intro a k h; first | (dsimp only at h ⊢; omega) | omega))), by rw [t5]; omega, (fun _ => zy_wv.eq (congrArg Int32.toInt t5) (fun k hk => w10 _ _ (by first | (dsimp only; omega) | omega))), (fun q => absurd q (by omega))⟩)
theorem gX9_check_X9_isPerson : GoodIn wzX9_check (wsV RX9 108 RX9 yX9_isPerson wzX9_isPerson) := wz_co bm_377 (wz_co bm_378 (wz_co bm_379 (wz_co bm_5 (wz_in bm_380))))
theorem gX9_check_X9_about : GoodIn wzX9_check (wsV RX9 76 RX9 yX9_about wzX9_about) := wz_co bm_381 (wz_co bm_382 (wz_co bm_383 (wz_co bm_5 (wz_in bm_384))))
theorem dS24_16 (x0 : Nat) : ((x0 + 1) = x0 + 3 ∨ (x0 + 7 ≤ (x0 + 1) ∧ (x0 + 1) ≤ x0 + 11)) ∨ ((x0 + 1) = x0 + 1 ∧ (6) = 6) := by omega
set_option maxHeartbeats 4000000 in
set_option maxRecDepth 100000 in
theorem c_X9_check (l : Launch) (E : zz_E) (σ : zz_S) (h0 : Nat) (g0 : zz_M E h0) (hJ : zz_IM σ h0) : Met l yX9_check wzX9_check ({ frames := 2, cells := 0, slots := 0, locals := 43 }) (va_Pc [.ref h0] (zz_B E σ)) (va_Qi (fun r σ1 => zz_ch (fun a k => (a = h0 + 3 ∨ (h0 + 7 ≤ a ∧ a ≤ h0 + 11)) ∨ (a = h0 + 1 ∧ k = 6)) σ σ1 ∧ (zz_IM σ1 h0 ∧ ((σ1 (h0 + 1) 6).toInt = 0 ∧ r.toInt = zy_ck (zy_cp (σ (h0 + 1) 3).toInt (zz_PM 1 σ (h0 + 1)) (zy_wv σ (h0 + 1) 133 (σ (h0 + 1) 6).toInt)) (σ (h0 + 1) 6).toInt.toNat 0))) (zz_B E) (zz_A E)) 0 0 (zz_A E) := by
  refine zz_met (cc := cX9_check) (maxL := 3) (ret := (some .int)) (by decide) rfl (Nat.le_of_ble_eq_true rfl) ?_
  intro p e s m args below meth c ls hx hb hr hts hown hlocks hml hK hP hS hl
  have hl : lv_has ls 3 [(0, .ref h0)] := hl
  have hown : s.vm.findClass RX9 = some m.cls := hown
  have hi9 : ∀ w ∈ wsX90, w ∈ wzX9_check := fun w h => List.mem_cons_of_mem _ (hbw9 w h)
  have k_0 : (0 : Int32).toInt = 0 := by decide +kernel
  have k_1 : (1 : Int32).toInt = 1 := by decide +kernel
  have k_6 : (6 : Int32).toInt = 6 := by decide +kernel
  have k_133 : (133 : Int32).toInt = 133 := by decide +kernel
  replace t0 : σ (h0 + 1) 2 = σ (h0 + 1) 2 := rfl
  replace t1 : σ (h0 + 1) 3 = σ (h0 + 1) 3 := rfl
  replace t2 : σ (h0 + 1) 0 = σ (h0 + 1) 0 := rfl
  replace t3 : σ (h0 + 1) 4 = σ (h0 + 1) 4 := rfl
  replace t4 : σ (h0 + 1) 5 = σ (h0 + 1) 5 := rfl
  replace t5 : σ (h0 + 1) 6 = σ (h0 + 1) 6 := rfl
  replace t6 : σ (h0 + 1) 1 = σ (h0 + 1) 1 := rfl
  have hC : zz_ch (fun a k => (a = h0 + 3 ∨ (h0 + 7 ≤ a ∧ a ≤ h0 + 11)) ∨ (a = h0 + 1 ∧ k = 6)) σ σ := zz_ch.rf σ
  have hI := hJ.1
  obtain ⟨hh, hsl, hd, hp, htc, hwc, hM, hT⟩ := id hI
  have hz5 := hJ.2.2.1
  have htr := hJ.2.2.2
  obtain ⟨X9, hX9⟩ : ∃ X : Int, zz_hid (zy_ck (zy_cp (σ (h0 + 1) 3).toInt (zz_PM 1 σ (h0 + 1)) (zy_wv σ (h0 + 1) 133 (σ (h0 + 1) 6).toInt)) (σ (h0 + 1) 6).toInt.toNat 0 = X) := ⟨_, rfl⟩
  refine lv_aload_n hx hb dX9_check_0 rfl (lv_at hl 0 rfl) ?_
  refine zz_getr hx hb hts hi9 hown hK hP (g0.1) rfl 0 (by decide) (hts (.fieldLink RX9 9 "NoonLawModel" "row" "[I") (List.mem_cons_of_mem _ bm_93)) rfl rfl dX9_check_1 ?_
  refine lv_bipush (v := 6) hx hb dX9_check_4 (by decide) ?_
  refine zz_ialc hx hb hK hP (g0.2.1) 6 (by decide) (by decide) t5 dX9_check_6 ?_
  refine lv_istore_n (lv' := [(1, .int (σ (h0 + 1) 6)), (0, .ref h0)]) hx hb dX9_check_7 rfl hl (by decide) rfl (fun ls hl => ?_)
  refine lv_aload_n hx hb dX9_check_8 rfl (lv_at hl 1 rfl) ?_
  refine zz_getr hx hb hts hi9 hown hK hP (g0.1) rfl 0 (by decide) (hts (.fieldLink RX9 9 "NoonLawModel" "row" "[I") (List.mem_cons_of_mem _ bm_93)) rfl rfl dX9_check_9 ?_
  refine lv_bipush (v := 6) hx hb dX9_check_12 (by decide) ?_
  refine lv_iconst (v := 0) hx hb dX9_check_14 (by decide) ?_
  refine zz_iasc hx hb hK hP hS (g0.2.1) 6 (by decide) (by decide) dX9_check_15 (fun σ2 H locs w2 hP1 hS1 => ?_)
  replace hP := hP1
  replace hS := hS1
  clear hP1 hS1
  replace hC := hC.u w2 (dS24_16 h0)
  replace t0 : σ2 (h0 + 1) 2 = σ (h0 + 1) 2 := (zz_w (b := (h0 + 1)) (j := 2) w2 (fun q9 => absurd q9.2 (by decide))).trans t0
  replace t1 : σ2 (h0 + 1) 3 = σ (h0 + 1) 3 := (zz_w (b := (h0 + 1)) (j := 3) w2 (fun q9 => absurd q9.2 (by decide))).trans t1
  replace t2 : σ2 (h0 + 1) 0 = σ (h0 + 1) 0 := (zz_w (b := (h0 + 1)) (j := 0) w2 (fun q9 => absurd q9.2 (by decide))).trans t2
  replace t3 : σ2 (h0 + 1) 4 = σ (h0 + 1) 4 := (zz_w (b := (h0 + 1)) (j := 4) w2 (fun q9 => absurd q9.2 (by decide))).trans t3
  replace t4 : σ2 (h0 + 1) 5 = σ (h0 + 1) 5 := (zz_w (b := (h0 + 1)) (j := 5) w2 (fun q9 => absurd q9.2 (by decide))).trans t4
  replace t5 : σ2 (h0 + 1) 6 = 0 := zz_w1 w2
  replace t6 : σ2 (h0 + 1) 1 = σ (h0 + 1) 1 := (zz_w (b := (h0 + 1)) (j := 1) w2 (fun q9 => absurd q9.2 (by decide))).trans t6
  refine lv_iconst (v := 0) hx hb dX9_check_16 (by decide) ?_
  refine lv_istore_n (lv' := [(2, .int 0), (1, .int (σ (h0 + 1) 6)), (0, .ref h0)]) hx hb dX9_check_17 rfl hl (by decide) rfl (fun ls hl => ?_)
  have J18 : ∀ (n : Nat) (ii : Int32) (H : Heap) (locs : List Loc) (ls : Array Slot), ((25 - ii.toInt).toNat) < n → (0 ≤ ii.toInt ∧ ii.toInt ≤ (σ (h0 + 1) 6).toInt) → (zz_hid (zy_ck (zy_cp (σ (h0 + 1) 3).toInt (zz_PM 1 σ (h0 + 1)) (zy_wv σ (h0 + 1) 133 (σ (h0 + 1) 6).toInt)) ((σ (h0 + 1) 6).toInt.toNat - ii.toInt.toNat) ii.toInt.toNat = X9)) → zz_P E σ2 H → va_S (zz_A E) s.heap H locs → lv_has ls 3 [(2, .int ii), (1, .int (σ (h0 + 1) 6)), (0, .ref h0)] → W p l e (headSpec wzX9_check ({ frames := 2, cells := 0, slots := 0, locals := 43 })).room s m args below meth c H locs 0 0 (MQ below (va_Qi (fun r σ1 => zz_ch (fun a k => (a = h0 + 3 ∨ (h0 + 7 ≤ a ∧ a ≤ h0 + 11)) ∨ (a = h0 + 1 ∧ k = 6)) σ σ1 ∧ (zz_IM σ1 h0 ∧ ((σ1 (h0 + 1) 6).toInt = 0 ∧ r.toInt = zy_ck (zy_cp (σ (h0 + 1) 3).toInt (zz_PM 1 σ (h0 + 1)) (zy_wv σ (h0 + 1) 133 (σ (h0 + 1) 6).toInt)) (σ (h0 + 1) 6).toInt.toNat 0))) (zz_B E) (zz_A E)) args s 0 0 (zz_A E)) (F0 m 18 ls []) := by
    intro n
    induction n with
    | zero => intro ii H locs ls hm; exact absurd hm (Nat.not_lt_zero _)
    | succ n ih18 =>
      intro ii H locs ls hm f18_0 f18_1 hP hS hl
      refine lv_iload_n hx hb dX9_check_18 rfl (lv_at hl 0 rfl) ?_
      refine lv_iload_n hx hb dX9_check_19 rfl (lv_at hl 1 rfl) ?_
      refine lv_icmp_ge (tgt := 60) hx hb dX9_check_20 (by decide) (fun c3 => ?_) (fun c3 => ?_)
      · have c3 := zz_leT c3
        refine lv_iconst (v := 0) hx hb dX9_check_60 (by decide) ?_
        have g := zy_ck_end f18_1 (by omega)
        exact zz_iret hx hb hr hlocks hK hP hS dX9_check_61 (by exact ⟨hC, (hJ.row (hI.scal (fun k hk => hC _ _ (by first | (dsimp only; omega) | omega)) (fun j hj => by rw [hC _ _ (by first | (dsimp only; omega) | omega)]; exact hM j hj) (by rw [t2]; omega) (by rw [t3]; omega) (by rw [t0]; omega) (by rw [t1]; omega) (by rw [t4]; omega) (by rw [t5]; omega)) (hC.mono (by intro a k h; first | (dsimp only at h ⊢; omega) | omega))), by rw [t5]; exact k_0, (show (0 : Int32).toInt = X9 by omega).trans (show _ = X9 from hX9).symm⟩)
      · have c3 := zz_nleT c3
        refine lv_aload_n hx hb dX9_check_23 rfl (lv_at hl 2 rfl) ?_
        refine lv_iload_n hx hb dX9_check_24 rfl (lv_at hl 0 rfl) ?_
        refine zz_callVp (As := [.int ii]) (rest := []) ⟨hx, hb, hml, hown, hts⟩ hK hP hS (c_X9_isPerson l E σ2 h0 ii g0 (by rw [t1]; exact hp)) (cwV 1 hts gX9_check_X9_isPerson rfl rfl rfl (by decide +kernel) ⟨Nat.le_of_ble_eq_true rfl, Nat.le_of_ble_eq_true rfl⟩) (g0.1) rfl rfl hl.1 rfl (Nat.le_of_ble_eq_true rfl) dX9_check_25 ⟨Nat.zero_le _, Nat.zero_le _⟩ (fun r4 H locs f4 hP1 hS1 => ?_)
        replace hP := hP1
        replace hS := hS1
        clear hP1 hS1
        try simp only [t0, t1, t2, t3, t4, t5, t6] at f4
        refine lv_if_eq (tgt := 50) hx hb dX9_check_28 (by decide) (fun c5 => ?_) (fun c5 => ?_)
        · have c5 := zz_eqT c5
          refine lv_iconst (v := 1) hx hb dX9_check_50 (by decide) ?_
          refine lv_iload_n hx hb dX9_check_51 rfl (lv_at hl 0 rfl) ?_
          refine lv_iadd hx hb dX9_check_52 ?_
          refine lv_topi (fun n6 e6 => ?_)
          have f6 : n6.toInt = (1 : Int32).toInt + (ii).toInt := zz_addT e6 (by omega) (by omega)
          have g := zy_ck_hit (P := (zy_cp (σ (h0 + 1) 3).toInt (zz_PM 1 σ (h0 + 1)) (zy_wv σ (h0 + 1) 133 (σ (h0 + 1) 6).toInt))) (show (σ (h0 + 1) 3).toInt ≤ ((ii.toInt.toNat : Nat) : Int) ∨ zz_PM 1 σ (h0 + 1) ii.toInt.toNat ≠ (zy_wv σ (h0 + 1) 133 (σ (h0 + 1) 6).toInt) ii.toInt.toNat by omega) f18_1 (by omega)
          exact zz_iret hx hb hr hlocks hK hP hS dX9_check_53 (by exact ⟨hC, (hJ.row (hI.scal (fun k hk => hC _ _ (by first | (dsimp only; omega) | omega)) (fun j hj => by rw [hC _ _ (by first | (dsimp only; omega) | omega)]; exact hM j hj) (by rw [t2]; omega) (by rw [t3]; omega) (by rw [t0]; omega) (by rw [t1]; omega) (by rw [t4]; omega) (by rw [t5]; omega)) (hC.mono (by intro a k h; first | (dsimp only at h ⊢; omega) | omega))), by rw [t5]; exact k_0, (show n6.toInt = X9 by omega).trans (show _ = X9 from hX9).symm⟩)
        · have c5 := zz_neT c5
          refine lv_aload_n hx hb dX9_check_31 rfl (lv_at hl 2 rfl) ?_
          refine zz_getr hx hb hts hi9 hown hK hP (g0.1) rfl 0 (by decide) (hts (.fieldLink RX9 9 "NoonLawModel" "row" "[I") (List.mem_cons_of_mem _ bm_93)) rfl rfl dX9_check_32 ?_
          refine lv_sipush (v := 133) hx hb dX9_check_35 (by decide) ?_
          refine lv_iload_n hx hb dX9_check_38 rfl (lv_at hl 0 rfl) ?_
          refine lv_iadd hx hb dX9_check_39 ?_
          refine lv_topi (fun n7 e7 => ?_)
          have f7 : n7.toInt = (133 : Int32).toInt + (ii).toInt := zz_addT e7 (by omega) (by omega)
          refine zz_iald hx hb hK hP (g0.2.1) (by omega) (by omega) dX9_check_40 (fun j8 q8 r8 => ?_)
          have hx2 : (σ2 (h0 + 1) j8).toInt = (zy_wv σ (h0 + 1) 133 (σ (h0 + 1) 6).toInt) ii.toInt.toNat := by rw [zy_wv.at (by omega) (by omega), show 133 + ii.toInt.toNat = j8 from by omega, w2, zz_un (by omega)]
          refine lv_aload_n hx hb dX9_check_41 rfl (lv_at hl 2 rfl) ?_
          refine lv_iload_n hx hb dX9_check_42 rfl (lv_at hl 0 rfl) ?_
          refine lv_iconst (v := 1) hx hb dX9_check_43 (by decide) ?_
          refine zz_callVp (As := [.int ii, .int 1]) (rest := [.int (σ2 (h0 + 1) j8)]) ⟨hx, hb, hml, hown, hts⟩ hK hP hS (c_X9_about l E σ2 h0 ii 1 g0 (by omega)) (cwV 2 hts gX9_check_X9_about rfl rfl rfl (by decide +kernel) ⟨Nat.le_of_ble_eq_true rfl, Nat.le_of_ble_eq_true rfl⟩) (g0.1) rfl rfl hl.1 rfl (Nat.le_of_ble_eq_true rfl) dX9_check_44 ⟨Nat.zero_le _, Nat.zero_le _⟩ (fun r9 H locs f9 hP1 hS1 => ?_)
          replace hP := hP1
          replace hS := hS1
          clear hP1 hS1
          try simp only [t0, t1, t2, t3, t4, t5, t6] at f9
          have hx1 : r9.toInt = zz_PM 1 σ (h0 + 1) ii.toInt.toNat := by rw [f9, w2, zz_un (by omega), zz_PM.at (by omega)]; exact congrArg (fun q => (σ (h0 + 1) q).toInt) (by omega)
          refine lv_icmp_eq (tgt := 54) hx hb dX9_check_47 (by decide) (fun c10 => ?_) (fun c10 => ?_)
          · have c10 := zz_eqT c10
            obtain ⟨n11, e11⟩ : ∃ y : Int32, y = ii + 1 := ⟨_, rfl⟩
            have f11 : n11.toInt = (ii).toInt + (1) := by have h9 := zz_addT e11 (by omega) (by omega); omega
            refine lv_iinc (v := n11) (lv' := [(2, .int n11), (1, .int (σ (h0 + 1) 6)), (0, .ref h0)]) hx hb dX9_check_54 hl (k := 0) rfl (by rw [e11]; rfl) (by decide) rfl (fun ls hl => ?_)
            refine lv_goto (tgt := 18) hx hb dX9_check_57 (by decide) ?_
            exact ih18 n11 _ _ _ (by omega) (by first | omega | exact hI | exact hT) (by exact zy_ck_go (P := (zy_cp (σ (h0 + 1) 3).toInt (zz_PM 1 σ (h0 + 1)) (zy_wv σ (h0 + 1) 133 (σ (h0 + 1) 6).toInt))) (show ¬ ((σ (h0 + 1) 3).toInt ≤ ((ii.toInt.toNat : Nat) : Int) ∨ zz_PM 1 σ (h0 + 1) ii.toInt.toNat ≠ (zy_wv σ (h0 + 1) 133 (σ (h0 + 1) 6).toInt) ii.toInt.toNat) by omega) f18_1 (by omega) (by omega)) hP hS (lv_sub hl [0, 1, 2] rfl)
          · have c10 := zz_neT c10
            refine lv_iconst (v := 1) hx hb dX9_check_50 (by decide) ?_
            refine lv_iload_n hx hb dX9_check_51 rfl (lv_at hl 0 rfl) ?_
            refine lv_iadd hx hb dX9_check_52 ?_
            refine lv_topi (fun n12 e12 => ?_)
            have f12 : n12.toInt = (1 : Int32).toInt + (ii).toInt := zz_addT e12 (by omega) (by omega)
            have g := zy_ck_hit (P := (zy_cp (σ (h0 + 1) 3).toInt (zz_PM 1 σ (h0 + 1)) (zy_wv σ (h0 + 1) 133 (σ (h0 + 1) 6).toInt))) (show (σ (h0 + 1) 3).toInt ≤ ((ii.toInt.toNat : Nat) : Int) ∨ zz_PM 1 σ (h0 + 1) ii.toInt.toNat ≠ (zy_wv σ (h0 + 1) 133 (σ (h0 + 1) 6).toInt) ii.toInt.toNat by omega) f18_1 (by omega)
            exact zz_iret hx hb hr hlocks hK hP hS dX9_check_53 (by exact ⟨hC, (hJ.row (hI.scal (fun k hk => hC _ _ (by first | (dsimp only; omega) | omega)) (fun j hj => by rw [hC _ _ (by first | (dsimp only; omega) | omega)]; exact hM j hj) (by rw [t2]; omega) (by rw [t3]; omega) (by rw [t0]; omega) (by rw [t1]; omega) (by rw [t4]; omega) (by rw [t5]; omega)) (hC.mono (by intro a k h; first | (dsimp only at h ⊢; omega) | omega))), by rw [t5]; exact k_0, (show n12.toInt = X9 by omega).trans (show _ = X9 from hX9).symm⟩)
  exact J18 _ 0 _ _ _ (Nat.lt_succ_self _) (by first | omega | exact hI | exact hT) (by rw [show (0 : Int32).toInt.toNat = 0 from by decide, Nat.sub_zero]; exact hX9) hP hS (lv_sub hl [0, 1, 2] rfl)
