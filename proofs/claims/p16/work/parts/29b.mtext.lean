theorem gX9_text_X9_in : GoodIn wzX9_text (va_wsS RX9 47 yX9_in wzX9_in) := wz_co bm_143 (wz_co bm_144 (wz_co bm_5 (wz_in bm_145)))
theorem gX9_text_X9_error : GoodIn wzX9_text (wsV RX9 94 RX9 yX9_error wzX9_error) := wz_co bm_146 (wz_co bm_147 (wz_co bm_148 (wz_co bm_5 (wz_in bm_149))))
theorem gX9_text_X9_any : GoodIn wzX9_text (wsV RX9 144 RX9 yX9_any wzX9_any) := wz_co bm_515 (wz_co bm_516 (wz_co bm_517 (wz_co bm_5 (wz_in bm_518))))
theorem dS33_1 (x0 : Nat) : ((x0) = x0 + 3 ∨ (x0 + 7 ≤ (x0) ∧ (x0) ≤ x0 + 11)) ∨ ((x0) = x0 ∧ 11 ≤ (15) ∧ (15) ≤ 15) ∨ ((x0) = x0 + 1 ∧ ((15) = 5 ∨ 157 ≤ (15))) := by omega
theorem dS33_2 (x0 : Nat) : ((x0) = x0 + 3 ∨ (x0 + 7 ≤ (x0) ∧ (x0) ≤ x0 + 11)) ∨ ((x0) = x0 ∧ 11 ≤ (11) ∧ (11) ≤ 15) ∨ ((x0) = x0 + 1 ∧ ((11) = 5 ∨ 157 ≤ (11))) := by omega
theorem dS33_3 (x0 : Nat) : ((x0) = x0 + 3 ∨ (x0 + 7 ≤ (x0) ∧ (x0) ≤ x0 + 11)) ∨ ((x0) = x0 ∧ 11 ≤ (12) ∧ (12) ≤ 15) ∨ ((x0) = x0 + 1 ∧ ((12) = 5 ∨ 157 ≤ (12))) := by omega
theorem dS33_4 (x0 : Nat) : ((x0) = x0 + 3 ∨ (x0 + 7 ≤ (x0) ∧ (x0) ≤ x0 + 11)) ∨ ((x0) = x0 ∧ 11 ≤ (13) ∧ (13) ≤ 15) ∨ ((x0) = x0 + 1 ∧ ((13) = 5 ∨ 157 ≤ (13))) := by omega
theorem dS33_5 (x0 : Nat) : ((x0) = x0 + 3 ∨ (x0 + 7 ≤ (x0) ∧ (x0) ≤ x0 + 11)) ∨ ((x0) = x0 ∧ 11 ≤ (14) ∧ (14) ≤ 15) ∨ ((x0) = x0 + 1 ∧ ((14) = 5 ∨ 157 ≤ (14))) := by omega
theorem dS33_6 (x0 : Nat) : ∀ a k : Nat, ((a = (x0) ∧ 11 ≤ k ∧ k ≤ 14) ∨ a = (x0) + 7 ∨ a = (x0) + 8) → ((a = x0 + 3 ∨ (x0 + 7 ≤ a ∧ a ≤ x0 + 11)) ∨ (a = x0 ∧ 11 ≤ k ∧ k ≤ 15) ∨ (a = x0 + 1 ∧ (k = 5 ∨ 157 ≤ k))) := by intro a k h; omega
theorem dS33_7 (x0 : Nat) : ¬ (((x0 + 1) = (x0) ∧ 11 ≤ (2) ∧ (2) ≤ 14) ∨ (x0 + 1) = (x0) + 7 ∨ (x0 + 1) = (x0) + 8) := by omega
theorem dS33_8 (x0 : Nat) : ¬ (((x0 + 1) = (x0) ∧ 11 ≤ (3) ∧ (3) ≤ 14) ∨ (x0 + 1) = (x0) + 7 ∨ (x0 + 1) = (x0) + 8) := by omega
theorem dS33_9 (x0 : Nat) : ¬ (((x0 + 1) = (x0) ∧ 11 ≤ (0) ∧ (0) ≤ 14) ∨ (x0 + 1) = (x0) + 7 ∨ (x0 + 1) = (x0) + 8) := by omega
theorem dS33_10 (x0 : Nat) : ¬ (((x0 + 1) = (x0) ∧ 11 ≤ (4) ∧ (4) ≤ 14) ∨ (x0 + 1) = (x0) + 7 ∨ (x0 + 1) = (x0) + 8) := by omega
theorem dS33_11 (x0 : Nat) : ¬ (((x0 + 1) = (x0) ∧ 11 ≤ (5) ∧ (5) ≤ 14) ∨ (x0 + 1) = (x0) + 7 ∨ (x0 + 1) = (x0) + 8) := by omega
theorem dS33_12 (x0 : Nat) : ¬ (((x0 + 1) = (x0) ∧ 11 ≤ (6) ∧ (6) ≤ 14) ∨ (x0 + 1) = (x0) + 7 ∨ (x0 + 1) = (x0) + 8) := by omega
theorem dS33_13 (x0 : Nat) : ¬ (((x0 + 1) = (x0) ∧ 11 ≤ (1) ∧ (1) ≤ 14) ∨ (x0 + 1) = (x0) + 7 ∨ (x0 + 1) = (x0) + 8) := by omega
theorem dS33_14 (x0 : Nat) : ¬ (((x0) = (x0) ∧ 11 ≤ (15) ∧ (15) ≤ 14) ∨ (x0) = (x0) + 7 ∨ (x0) = (x0) + 8) := by omega
theorem dS33_15 (x0 : Nat) : ((x0 + 1) = x0 + 3 ∨ (x0 + 7 ≤ (x0 + 1) ∧ (x0 + 1) ≤ x0 + 11)) ∨ ((x0 + 1) = x0 ∧ 11 ≤ (5) ∧ (5) ≤ 15) ∨ ((x0 + 1) = x0 + 1 ∧ ((5) = 5 ∨ 157 ≤ (5))) := by omega
theorem dS33_16 (x0 : Nat) : ∀ a k : Nat, (a = (x0) + 3) → ((a = x0 + 3 ∨ (x0 + 7 ≤ a ∧ a ≤ x0 + 11)) ∨ (a = x0 ∧ 11 ≤ k ∧ k ≤ 15) ∨ (a = x0 + 1 ∧ (k = 5 ∨ 157 ≤ k))) := by intro a k h; omega
theorem dS33_17 (x0 : Nat) : ¬ ((x0 + 1) = (x0) + 3) := by omega
theorem dS33_18 (x0 : Nat) : ¬ ((x0) = (x0) + 3) := by omega
set_option maxHeartbeats 4000000 in
set_option maxRecDepth 100000 in
theorem c_X9_text (l : Launch) (E : zz_E) (σ : zz_S) (h0 : Nat) (use : Int32) (g0 : zz_M E h0) (hJ : zz_IM σ h0) : Met l yX9_text wzX9_text ({ frames := 67, cells := 0, slots := 0, locals := 3680 }) (va_Pc [.ref h0, .int use] (zz_B E σ)) (va_Qi (fun r σ1 => zz_ch (fun a k => (a = h0 + 3 ∨ (h0 + 7 ≤ a ∧ a ≤ h0 + 11)) ∨ (a = h0 ∧ 11 ≤ k ∧ k ≤ 15) ∨ (a = h0 + 1 ∧ (k = 5 ∨ 157 ≤ k))) σ σ1 ∧ (zz_IM σ1 h0 ∧ (((use.toInt < 0 ∨ 1 < use.toInt) ∧ (σ1 (h0 + 1) 5).toInt = (σ (h0 + 1) 5).toInt ∧ r.toInt = -1000000001 ∧ zz_MT σ1 (h0 + 1) = zz_MT σ (h0 + 1) ∧ zz_Tm σ1 (h0 + 1) = zz_Tm σ (h0 + 1)) ∨ (0 ≤ use.toInt ∧ use.toInt ≤ 1 ∧ (σ1 (h0 + 1) 5).toInt = 0 ∧ zz_tm (zz_PQ (zz_Tm σ (h0 + 1)) use.toInt 0) (σ (h0 + 1) 5).toInt r.toInt (zz_MT σ (h0 + 1)) (zz_MT σ1 (h0 + 1)) use.toInt)))) (zz_B E) (zz_A E)) 0 0 (zz_A E) := by
  refine zz_met (cc := cX9_text) (maxL := 4) (ret := (some .int)) (by decide) rfl (Nat.le_of_ble_eq_true rfl) ?_
  intro p e s m args below meth c ls hx hb hr hts hown hlocks hml hK hP hS hl
  have hl : lv_has ls 4 [(0, .ref h0), (1, .int use)] := hl
  have hown : s.vm.findClass RX9 = some m.cls := hown
  have hi9 : ∀ w ∈ wsX90, w ∈ wzX9_text := fun w h => List.mem_cons_of_mem _ (hbw9 w h)
  have k_m1000000001 : ((-1000000001) : Int32).toInt = -1000000001 := by decide +kernel
  have k_m10 : ((-10) : Int32).toInt = -10 := by decide +kernel
  have k_0 : (0 : Int32).toInt = 0 := by decide +kernel
  have k_1 : (1 : Int32).toInt = 1 := by decide +kernel
  have k_5 : (5 : Int32).toInt = 5 := by decide +kernel
  have k_61 : (61 : Int32).toInt = 61 := by decide +kernel
  have k_121 : (121 : Int32).toInt = 121 := by decide +kernel
  have k_157 : (157 : Int32).toInt = 157 := by decide +kernel
  replace t0 : σ (h0 + 1) 2 = σ (h0 + 1) 2 := rfl
  replace t1 : σ (h0 + 1) 3 = σ (h0 + 1) 3 := rfl
  replace t2 : σ (h0 + 1) 0 = σ (h0 + 1) 0 := rfl
  replace t3 : σ (h0 + 1) 4 = σ (h0 + 1) 4 := rfl
  replace t4 : σ (h0 + 1) 5 = σ (h0 + 1) 5 := rfl
  replace t5 : σ (h0 + 1) 6 = σ (h0 + 1) 6 := rfl
  replace t6 : σ (h0 + 1) 1 = σ (h0 + 1) 1 := rfl
  replace t7 : σ h0 11 = σ h0 11 := rfl
  replace t8 : σ h0 12 = σ h0 12 := rfl
  replace t9 : σ h0 13 = σ h0 13 := rfl
  replace t10 : σ h0 14 = σ h0 14 := rfl
  replace t11 : σ h0 15 = σ h0 15 := rfl
  have hC : zz_ch (fun a k => (a = h0 + 3 ∨ (h0 + 7 ≤ a ∧ a ≤ h0 + 11)) ∨ (a = h0 ∧ 11 ≤ k ∧ k ≤ 15) ∨ (a = h0 + 1 ∧ (k = 5 ∨ 157 ≤ k))) σ σ := zz_ch.rf σ
  have hI := hJ.1
  obtain ⟨hh, hsl, hd, hp, htc, hwc, hM, hT⟩ := id hI
  have hz5 := hJ.2.2.1
  have htr := hJ.2.2.2
  refine lv_iload_n hx hb dX9_text_0 rfl (lv_at hl 1 rfl) ?_
  refine lv_iconst (v := 0) hx hb dX9_text_1 (by decide) ?_
  refine lv_iconst (v := 1) hx hb dX9_text_2 (by decide) ?_
  refine zz_callSp (As := [.int use, .int 0, .int 1]) (rest := []) ⟨hx, hb, hml, hown, hts⟩ hK hP hS (c_X9_in l E σ use 0 1) (va_cwS 3 hts gX9_text_X9_in rfl rfl rfl (by decide +kernel) ⟨Nat.le_of_ble_eq_true rfl, Nat.le_of_ble_eq_true rfl⟩) rfl hl.1 rfl (Nat.le_of_ble_eq_true rfl) dX9_text_3 ⟨Nat.zero_le _, Nat.zero_le _⟩ (fun r1 H locs f1 hP1 hS1 => ?_)
  replace hP := hP1
  replace hS := hS1
  clear hP1 hS1
  refine lv_if_ne (tgt := 16) hx hb dX9_text_6 (by decide) (fun c2 => ?_) (fun c2 => ?_)
  · have c2 := zz_neT c2
    refine lv_aload_n hx hb dX9_text_16 rfl (lv_at hl 0 rfl) ?_
    refine lv_iload_n hx hb dX9_text_17 rfl (lv_at hl 1 rfl) ?_
    refine zz_puti (v := use) (ty := .int) hx hb hts hi9 tyX9 tyX9_ok nmX9 hown hK hP hS (g0.1) rfl 15 (by decide) (hts (.fieldLink RX9 123 "NoonLawModel" "using" "I") (List.mem_cons_of_mem _ bm_510)) rfl rfl (by decide +kernel) rfl rfl rfl dX9_text_18 (fun σ3 H locs w3 hP1 hS1 => ?_)
    replace hP := hP1
    replace hS := hS1
    clear hP1 hS1
    replace hC := hC.u w3 (dS33_1 h0)
    replace t0 : σ3 (h0 + 1) 2 = σ (h0 + 1) 2 := (zz_w (b := (h0 + 1)) (j := 2) w3 (fun q9 => zz_na (a := h0) (i := 1) (j := 0) (by decide) q9.1)).trans t0
    replace t1 : σ3 (h0 + 1) 3 = σ (h0 + 1) 3 := (zz_w (b := (h0 + 1)) (j := 3) w3 (fun q9 => zz_na (a := h0) (i := 1) (j := 0) (by decide) q9.1)).trans t1
    replace t2 : σ3 (h0 + 1) 0 = σ (h0 + 1) 0 := (zz_w (b := (h0 + 1)) (j := 0) w3 (fun q9 => zz_na (a := h0) (i := 1) (j := 0) (by decide) q9.1)).trans t2
    replace t3 : σ3 (h0 + 1) 4 = σ (h0 + 1) 4 := (zz_w (b := (h0 + 1)) (j := 4) w3 (fun q9 => zz_na (a := h0) (i := 1) (j := 0) (by decide) q9.1)).trans t3
    replace t4 : σ3 (h0 + 1) 5 = σ (h0 + 1) 5 := (zz_w (b := (h0 + 1)) (j := 5) w3 (fun q9 => zz_na (a := h0) (i := 1) (j := 0) (by decide) q9.1)).trans t4
    replace t5 : σ3 (h0 + 1) 6 = σ (h0 + 1) 6 := (zz_w (b := (h0 + 1)) (j := 6) w3 (fun q9 => zz_na (a := h0) (i := 1) (j := 0) (by decide) q9.1)).trans t5
    replace t6 : σ3 (h0 + 1) 1 = σ (h0 + 1) 1 := (zz_w (b := (h0 + 1)) (j := 1) w3 (fun q9 => zz_na (a := h0) (i := 1) (j := 0) (by decide) q9.1)).trans t6
    replace t7 : σ3 h0 11 = σ h0 11 := (zz_w (b := h0) (j := 11) w3 (fun q9 => absurd q9.2 (by decide))).trans t7
    replace t8 : σ3 h0 12 = σ h0 12 := (zz_w (b := h0) (j := 12) w3 (fun q9 => absurd q9.2 (by decide))).trans t8
    replace t9 : σ3 h0 13 = σ h0 13 := (zz_w (b := h0) (j := 13) w3 (fun q9 => absurd q9.2 (by decide))).trans t9
    replace t10 : σ3 h0 14 = σ h0 14 := (zz_w (b := h0) (j := 14) w3 (fun q9 => absurd q9.2 (by decide))).trans t10
    replace t11 : σ3 h0 15 = use := zz_w1 w3
    refine lv_aload_n hx hb dX9_text_21 rfl (lv_at hl 0 rfl) ?_
    refine lv_iconst (v := 0) hx hb dX9_text_22 (by decide) ?_
    refine zz_puti (v := 0) (ty := .int) hx hb hts hi9 tyX9 tyX9_ok nmX9 hown hK hP hS (g0.1) rfl 11 (by decide) (hts (.fieldLink RX9 120 "NoonLawModel" "laid" "I") (List.mem_cons_of_mem _ bm_511)) rfl rfl (by decide +kernel) rfl rfl rfl dX9_text_23 (fun σ4 H locs w4 hP1 hS1 => ?_)
    replace hP := hP1
    replace hS := hS1
    clear hP1 hS1
    replace hC := hC.u w4 (dS33_2 h0)
    replace t0 : σ4 (h0 + 1) 2 = σ (h0 + 1) 2 := (zz_w (b := (h0 + 1)) (j := 2) w4 (fun q9 => zz_na (a := h0) (i := 1) (j := 0) (by decide) q9.1)).trans t0
    replace t1 : σ4 (h0 + 1) 3 = σ (h0 + 1) 3 := (zz_w (b := (h0 + 1)) (j := 3) w4 (fun q9 => zz_na (a := h0) (i := 1) (j := 0) (by decide) q9.1)).trans t1
    replace t2 : σ4 (h0 + 1) 0 = σ (h0 + 1) 0 := (zz_w (b := (h0 + 1)) (j := 0) w4 (fun q9 => zz_na (a := h0) (i := 1) (j := 0) (by decide) q9.1)).trans t2
    replace t3 : σ4 (h0 + 1) 4 = σ (h0 + 1) 4 := (zz_w (b := (h0 + 1)) (j := 4) w4 (fun q9 => zz_na (a := h0) (i := 1) (j := 0) (by decide) q9.1)).trans t3
    replace t4 : σ4 (h0 + 1) 5 = σ (h0 + 1) 5 := (zz_w (b := (h0 + 1)) (j := 5) w4 (fun q9 => zz_na (a := h0) (i := 1) (j := 0) (by decide) q9.1)).trans t4
    replace t5 : σ4 (h0 + 1) 6 = σ (h0 + 1) 6 := (zz_w (b := (h0 + 1)) (j := 6) w4 (fun q9 => zz_na (a := h0) (i := 1) (j := 0) (by decide) q9.1)).trans t5
    replace t6 : σ4 (h0 + 1) 1 = σ (h0 + 1) 1 := (zz_w (b := (h0 + 1)) (j := 1) w4 (fun q9 => zz_na (a := h0) (i := 1) (j := 0) (by decide) q9.1)).trans t6
    replace t7 : σ4 h0 11 = 0 := zz_w1 w4
    replace t8 : σ4 h0 12 = σ h0 12 := (zz_w (b := h0) (j := 12) w4 (fun q9 => absurd q9.2 (by decide))).trans t8
    replace t9 : σ4 h0 13 = σ h0 13 := (zz_w (b := h0) (j := 13) w4 (fun q9 => absurd q9.2 (by decide))).trans t9
    replace t10 : σ4 h0 14 = σ h0 14 := (zz_w (b := h0) (j := 14) w4 (fun q9 => absurd q9.2 (by decide))).trans t10
    replace t11 : σ4 h0 15 = use := (zz_w (b := h0) (j := 15) w4 (fun q9 => absurd q9.2 (by decide))).trans t11
    refine lv_aload_n hx hb dX9_text_26 rfl (lv_at hl 0 rfl) ?_
    refine lv_iconst (v := 0) hx hb dX9_text_27 (by decide) ?_
    refine zz_puti (v := 0) (ty := .int) hx hb hts hi9 tyX9 tyX9_ok nmX9 hown hK hP hS (g0.1) rfl 12 (by decide) (hts (.fieldLink RX9 116 "NoonLawModel" "here" "I") (List.mem_cons_of_mem _ bm_512)) rfl rfl (by decide +kernel) rfl rfl rfl dX9_text_28 (fun σ5 H locs w5 hP1 hS1 => ?_)
    replace hP := hP1
    replace hS := hS1
    clear hP1 hS1
    replace hC := hC.u w5 (dS33_3 h0)
    replace t0 : σ5 (h0 + 1) 2 = σ (h0 + 1) 2 := (zz_w (b := (h0 + 1)) (j := 2) w5 (fun q9 => zz_na (a := h0) (i := 1) (j := 0) (by decide) q9.1)).trans t0
    replace t1 : σ5 (h0 + 1) 3 = σ (h0 + 1) 3 := (zz_w (b := (h0 + 1)) (j := 3) w5 (fun q9 => zz_na (a := h0) (i := 1) (j := 0) (by decide) q9.1)).trans t1
    replace t2 : σ5 (h0 + 1) 0 = σ (h0 + 1) 0 := (zz_w (b := (h0 + 1)) (j := 0) w5 (fun q9 => zz_na (a := h0) (i := 1) (j := 0) (by decide) q9.1)).trans t2
    replace t3 : σ5 (h0 + 1) 4 = σ (h0 + 1) 4 := (zz_w (b := (h0 + 1)) (j := 4) w5 (fun q9 => zz_na (a := h0) (i := 1) (j := 0) (by decide) q9.1)).trans t3
    replace t4 : σ5 (h0 + 1) 5 = σ (h0 + 1) 5 := (zz_w (b := (h0 + 1)) (j := 5) w5 (fun q9 => zz_na (a := h0) (i := 1) (j := 0) (by decide) q9.1)).trans t4
    replace t5 : σ5 (h0 + 1) 6 = σ (h0 + 1) 6 := (zz_w (b := (h0 + 1)) (j := 6) w5 (fun q9 => zz_na (a := h0) (i := 1) (j := 0) (by decide) q9.1)).trans t5
    replace t6 : σ5 (h0 + 1) 1 = σ (h0 + 1) 1 := (zz_w (b := (h0 + 1)) (j := 1) w5 (fun q9 => zz_na (a := h0) (i := 1) (j := 0) (by decide) q9.1)).trans t6
    replace t7 : σ5 h0 11 = 0 := (zz_w (b := h0) (j := 11) w5 (fun q9 => absurd q9.2 (by decide))).trans t7
    replace t8 : σ5 h0 12 = 0 := zz_w1 w5
    replace t9 : σ5 h0 13 = σ h0 13 := (zz_w (b := h0) (j := 13) w5 (fun q9 => absurd q9.2 (by decide))).trans t9
    replace t10 : σ5 h0 14 = σ h0 14 := (zz_w (b := h0) (j := 14) w5 (fun q9 => absurd q9.2 (by decide))).trans t10
    replace t11 : σ5 h0 15 = use := (zz_w (b := h0) (j := 15) w5 (fun q9 => absurd q9.2 (by decide))).trans t11
    refine lv_aload_n hx hb dX9_text_31 rfl (lv_at hl 0 rfl) ?_
    refine lv_iconst (v := 0) hx hb dX9_text_32 (by decide) ?_
    refine zz_puti (v := 0) (ty := .int) hx hb hts hi9 tyX9 tyX9_ok nmX9 hown hK hP hS (g0.1) rfl 13 (by decide) (hts (.fieldLink RX9 138 "NoonLawModel" "opened" "I") (List.mem_cons_of_mem _ bm_513)) rfl rfl (by decide +kernel) rfl rfl rfl dX9_text_33 (fun σ6 H locs w6 hP1 hS1 => ?_)
    replace hP := hP1
    replace hS := hS1
    clear hP1 hS1
    replace hC := hC.u w6 (dS33_4 h0)
    replace t0 : σ6 (h0 + 1) 2 = σ (h0 + 1) 2 := (zz_w (b := (h0 + 1)) (j := 2) w6 (fun q9 => zz_na (a := h0) (i := 1) (j := 0) (by decide) q9.1)).trans t0
    replace t1 : σ6 (h0 + 1) 3 = σ (h0 + 1) 3 := (zz_w (b := (h0 + 1)) (j := 3) w6 (fun q9 => zz_na (a := h0) (i := 1) (j := 0) (by decide) q9.1)).trans t1
    replace t2 : σ6 (h0 + 1) 0 = σ (h0 + 1) 0 := (zz_w (b := (h0 + 1)) (j := 0) w6 (fun q9 => zz_na (a := h0) (i := 1) (j := 0) (by decide) q9.1)).trans t2
    replace t3 : σ6 (h0 + 1) 4 = σ (h0 + 1) 4 := (zz_w (b := (h0 + 1)) (j := 4) w6 (fun q9 => zz_na (a := h0) (i := 1) (j := 0) (by decide) q9.1)).trans t3
    replace t4 : σ6 (h0 + 1) 5 = σ (h0 + 1) 5 := (zz_w (b := (h0 + 1)) (j := 5) w6 (fun q9 => zz_na (a := h0) (i := 1) (j := 0) (by decide) q9.1)).trans t4
    replace t5 : σ6 (h0 + 1) 6 = σ (h0 + 1) 6 := (zz_w (b := (h0 + 1)) (j := 6) w6 (fun q9 => zz_na (a := h0) (i := 1) (j := 0) (by decide) q9.1)).trans t5
    replace t6 : σ6 (h0 + 1) 1 = σ (h0 + 1) 1 := (zz_w (b := (h0 + 1)) (j := 1) w6 (fun q9 => zz_na (a := h0) (i := 1) (j := 0) (by decide) q9.1)).trans t6
    replace t7 : σ6 h0 11 = 0 := (zz_w (b := h0) (j := 11) w6 (fun q9 => absurd q9.2 (by decide))).trans t7
    replace t8 : σ6 h0 12 = 0 := (zz_w (b := h0) (j := 12) w6 (fun q9 => absurd q9.2 (by decide))).trans t8
    replace t9 : σ6 h0 13 = 0 := zz_w1 w6
    replace t10 : σ6 h0 14 = σ h0 14 := (zz_w (b := h0) (j := 14) w6 (fun q9 => absurd q9.2 (by decide))).trans t10
    replace t11 : σ6 h0 15 = use := (zz_w (b := h0) (j := 15) w6 (fun q9 => absurd q9.2 (by decide))).trans t11
    refine lv_aload_n hx hb dX9_text_36 rfl (lv_at hl 0 rfl) ?_
    refine lv_iconst (v := 0) hx hb dX9_text_37 (by decide) ?_
    refine zz_puti (v := 0) (ty := .boolean) hx hb hts hi9 tyX9 tyX9_ok nmX9 hown hK hP hS (g0.1) rfl 14 (by decide) (hts (.fieldLink RX9 130 "NoonLawModel" "bad" "Z") (List.mem_cons_of_mem _ bm_514)) rfl rfl (by decide +kernel) (zz_nz (by omega)) (zz_fz (by omega)) rfl dX9_text_38 (fun σ7 H locs w7 hP1 hS1 => ?_)
    replace hP := hP1
    replace hS := hS1
    clear hP1 hS1
    replace hC := hC.u w7 (dS33_5 h0)
    replace t0 : σ7 (h0 + 1) 2 = σ (h0 + 1) 2 := (zz_w (b := (h0 + 1)) (j := 2) w7 (fun q9 => zz_na (a := h0) (i := 1) (j := 0) (by decide) q9.1)).trans t0
    replace t1 : σ7 (h0 + 1) 3 = σ (h0 + 1) 3 := (zz_w (b := (h0 + 1)) (j := 3) w7 (fun q9 => zz_na (a := h0) (i := 1) (j := 0) (by decide) q9.1)).trans t1
    replace t2 : σ7 (h0 + 1) 0 = σ (h0 + 1) 0 := (zz_w (b := (h0 + 1)) (j := 0) w7 (fun q9 => zz_na (a := h0) (i := 1) (j := 0) (by decide) q9.1)).trans t2
    replace t3 : σ7 (h0 + 1) 4 = σ (h0 + 1) 4 := (zz_w (b := (h0 + 1)) (j := 4) w7 (fun q9 => zz_na (a := h0) (i := 1) (j := 0) (by decide) q9.1)).trans t3
    replace t4 : σ7 (h0 + 1) 5 = σ (h0 + 1) 5 := (zz_w (b := (h0 + 1)) (j := 5) w7 (fun q9 => zz_na (a := h0) (i := 1) (j := 0) (by decide) q9.1)).trans t4
    replace t5 : σ7 (h0 + 1) 6 = σ (h0 + 1) 6 := (zz_w (b := (h0 + 1)) (j := 6) w7 (fun q9 => zz_na (a := h0) (i := 1) (j := 0) (by decide) q9.1)).trans t5
    replace t6 : σ7 (h0 + 1) 1 = σ (h0 + 1) 1 := (zz_w (b := (h0 + 1)) (j := 1) w7 (fun q9 => zz_na (a := h0) (i := 1) (j := 0) (by decide) q9.1)).trans t6
    replace t7 : σ7 h0 11 = 0 := (zz_w (b := h0) (j := 11) w7 (fun q9 => absurd q9.2 (by decide))).trans t7
    replace t8 : σ7 h0 12 = 0 := (zz_w (b := h0) (j := 12) w7 (fun q9 => absurd q9.2 (by decide))).trans t8
    replace t9 : σ7 h0 13 = 0 := (zz_w (b := h0) (j := 13) w7 (fun q9 => absurd q9.2 (by decide))).trans t9
    replace t10 : σ7 h0 14 = 0 := zz_w1 w7
    replace t11 : σ7 h0 15 = use := (zz_w (b := h0) (j := 15) w7 (fun q9 => absurd q9.2 (by decide))).trans t11
    have hG9 : zz_PG σ7 h0 := zz_PG.start (by rw [t7]; exact k_0) (by rw [t8]; exact k_0) (by rw [t10]; exact k_0) (by rw [t4]; omega)
    have hx12 := congrArg Int32.toInt t8
    have hx5 := congrArg Int32.toInt t4
    have hx11 := congrArg Int32.toInt t7
    have hT9 : zz_hM σ7 h0 (zz_Tm σ (h0 + 1)) := zz_hM.rf.keep (fun k => by rw [w7, zz_un (by omega), w6, zz_un (by omega), w5, zz_un (by omega), w4, zz_un (by omega), w3, zz_un (by omega)])
    refine lv_aload_n hx hb dX9_text_41 rfl (lv_at hl 0 rfl) ?_
    refine zz_callVv (As := []) (rest := []) ⟨hx, hb, hml, hown, hts⟩ hK hP hS (c_X9_any l E σ7 h0 g0 (by exact hG9) (zz_Tm σ (h0 + 1)) use.toInt (by exact hT9) (by rw [t11]) (by omega) (by rw [t9]; exact k_0)) (cwV 0 hts gX9_text_X9_any rfl rfl rfl (by decide +kernel) ⟨Nat.le_of_ble_eq_true rfl, Nat.le_of_ble_eq_true rfl⟩) (g0.1) rfl rfl hl.1 rfl (Nat.le_of_ble_eq_true rfl) dX9_text_42 ⟨Nat.zero_le _, Nat.zero_le _⟩ (fun σ8 H locs q8 hP1 hS1 => ?_)
    replace hP := hP1
    replace hS := hS1
    clear hP1 hS1
    try dsimp only at q8
    obtain ⟨w8, f8⟩ := q8
    replace hC := hC.tr (w8.mono (dS33_6 h0))
    try simp only [t0, t1, t2, t3, t4, t5, t6, t7, t8, t9, t10, t11] at f8
    replace t0 : σ8 (h0 + 1) 2 = σ (h0 + 1) 2 := (w8 (h0 + 1) 2 (dS33_7 h0)).trans t0
    replace t1 : σ8 (h0 + 1) 3 = σ (h0 + 1) 3 := (w8 (h0 + 1) 3 (dS33_8 h0)).trans t1
    replace t2 : σ8 (h0 + 1) 0 = σ (h0 + 1) 0 := (w8 (h0 + 1) 0 (dS33_9 h0)).trans t2
    replace t3 : σ8 (h0 + 1) 4 = σ (h0 + 1) 4 := (w8 (h0 + 1) 4 (dS33_10 h0)).trans t3
    replace t4 : σ8 (h0 + 1) 5 = σ (h0 + 1) 5 := (w8 (h0 + 1) 5 (dS33_11 h0)).trans t4
    replace t5 : σ8 (h0 + 1) 6 = σ (h0 + 1) 6 := (w8 (h0 + 1) 6 (dS33_12 h0)).trans t5
    replace t6 : σ8 (h0 + 1) 1 = σ (h0 + 1) 1 := (w8 (h0 + 1) 1 (dS33_13 h0)).trans t6
    replace t7 : σ8 h0 11 = σ8 h0 11 := rfl
    replace t8 : σ8 h0 12 = σ8 h0 12 := rfl
    replace t9 : σ8 h0 13 = σ8 h0 13 := rfl
    replace t10 : σ8 h0 14 = σ8 h0 14 := rfl
    replace t11 : σ8 h0 15 = use := (w8 h0 15 (dS33_14 h0)).trans t11
    have hPP := f8.1
    have hn6 := hPP.nums
    have hq9 : zz_q9 σ7 σ8 h0 (zz_PQ (zz_Tm σ (h0 + 1)) use.toInt 0) := f8.2
    have hq0 : (σ7 h0 11).toInt = 0 := by rw [w7, zz_un (by omega), w6, zz_un (by omega), w5, zz_un (by omega), w4, zz_us]; exact k_0
    refine lv_aload_n hx hb dX9_text_45 rfl (lv_at hl 0 rfl) ?_
    have J71 : ∀ (bd : Int32) (H : Heap) (locs : List Loc) (ls : Array Slot),  ((bd.toInt = 0 ∧ (σ8 h0 14).toInt = 0 ∧ (σ (h0 + 1) 5).toInt ≤ (σ8 h0 12).toInt) ∨ (bd.toInt = 1 ∧ ((σ8 h0 14).toInt = 1 ∨ (σ8 h0 12).toInt < (σ (h0 + 1) 5).toInt))) → zz_P E σ8 H → va_S (zz_A E) s.heap H locs → lv_has ls 4 [(0, .ref h0), (1, .int use)] → W p l e (headSpec wzX9_text ({ frames := 67, cells := 0, slots := 0, locals := 3680 })).room s m args below meth c H locs 0 0 (MQ below (va_Qi (fun r σ1 => zz_ch (fun a k => (a = h0 + 3 ∨ (h0 + 7 ≤ a ∧ a ≤ h0 + 11)) ∨ (a = h0 ∧ 11 ≤ k ∧ k ≤ 15) ∨ (a = h0 + 1 ∧ (k = 5 ∨ 157 ≤ k))) σ σ1 ∧ (zz_IM σ1 h0 ∧ (((use.toInt < 0 ∨ 1 < use.toInt) ∧ (σ1 (h0 + 1) 5).toInt = (σ (h0 + 1) 5).toInt ∧ r.toInt = -1000000001 ∧ zz_MT σ1 (h0 + 1) = zz_MT σ (h0 + 1) ∧ zz_Tm σ1 (h0 + 1) = zz_Tm σ (h0 + 1)) ∨ (0 ≤ use.toInt ∧ use.toInt ≤ 1 ∧ (σ1 (h0 + 1) 5).toInt = 0 ∧ zz_tm (zz_PQ (zz_Tm σ (h0 + 1)) use.toInt 0) (σ (h0 + 1) 5).toInt r.toInt (zz_MT σ (h0 + 1)) (zz_MT σ1 (h0 + 1)) use.toInt)))) (zz_B E) (zz_A E)) args s 0 0 (zz_A E)) (F0 m 71 ls [.int bd, .ref h0]) := by
      intro bd H locs ls f71_0 hP hS hl
      refine zz_puti (v := bd) (ty := .boolean) hx hb hts hi9 tyX9 tyX9_ok nmX9 hown hK hP hS (g0.1) rfl 14 (by decide) (hts (.fieldLink RX9 130 "NoonLawModel" "bad" "Z") (List.mem_cons_of_mem _ bm_514)) rfl rfl (by decide +kernel) (zz_nz (by omega)) (zz_fz (by omega)) rfl dX9_text_71 (fun σ9 H locs w9 hP1 hS1 => ?_)
      replace hP := hP1
      replace hS := hS1
      clear hP1 hS1
      replace hC := hC.u w9 (dS33_5 h0)
      replace t0 : σ9 (h0 + 1) 2 = σ (h0 + 1) 2 := (zz_w (b := (h0 + 1)) (j := 2) w9 (fun q9 => zz_na (a := h0) (i := 1) (j := 0) (by decide) q9.1)).trans t0
      replace t1 : σ9 (h0 + 1) 3 = σ (h0 + 1) 3 := (zz_w (b := (h0 + 1)) (j := 3) w9 (fun q9 => zz_na (a := h0) (i := 1) (j := 0) (by decide) q9.1)).trans t1
      replace t2 : σ9 (h0 + 1) 0 = σ (h0 + 1) 0 := (zz_w (b := (h0 + 1)) (j := 0) w9 (fun q9 => zz_na (a := h0) (i := 1) (j := 0) (by decide) q9.1)).trans t2
      replace t3 : σ9 (h0 + 1) 4 = σ (h0 + 1) 4 := (zz_w (b := (h0 + 1)) (j := 4) w9 (fun q9 => zz_na (a := h0) (i := 1) (j := 0) (by decide) q9.1)).trans t3
      replace t4 : σ9 (h0 + 1) 5 = σ (h0 + 1) 5 := (zz_w (b := (h0 + 1)) (j := 5) w9 (fun q9 => zz_na (a := h0) (i := 1) (j := 0) (by decide) q9.1)).trans t4
      replace t5 : σ9 (h0 + 1) 6 = σ (h0 + 1) 6 := (zz_w (b := (h0 + 1)) (j := 6) w9 (fun q9 => zz_na (a := h0) (i := 1) (j := 0) (by decide) q9.1)).trans t5
      replace t6 : σ9 (h0 + 1) 1 = σ (h0 + 1) 1 := (zz_w (b := (h0 + 1)) (j := 1) w9 (fun q9 => zz_na (a := h0) (i := 1) (j := 0) (by decide) q9.1)).trans t6
      replace t7 : σ9 h0 11 = σ8 h0 11 := (zz_w (b := h0) (j := 11) w9 (fun q9 => absurd q9.2 (by decide))).trans t7
      replace t8 : σ9 h0 12 = σ8 h0 12 := (zz_w (b := h0) (j := 12) w9 (fun q9 => absurd q9.2 (by decide))).trans t8
      replace t9 : σ9 h0 13 = σ8 h0 13 := (zz_w (b := h0) (j := 13) w9 (fun q9 => absurd q9.2 (by decide))).trans t9
      replace t10 : σ9 h0 14 = bd := zz_w1 w9
      replace t11 : σ9 h0 15 = use := (zz_w (b := h0) (j := 15) w9 (fun q9 => absurd q9.2 (by decide))).trans t11
      refine lv_aload_n hx hb dX9_text_74 rfl (lv_at hl 0 rfl) ?_
      refine zz_getr hx hb hts hi9 hown hK hP (g0.1) rfl 0 (by decide) (hts (.fieldLink RX9 9 "NoonLawModel" "row" "[I") (List.mem_cons_of_mem _ bm_93)) rfl rfl dX9_text_75 ?_
      refine lv_iconst (v := 5) hx hb dX9_text_78 (by decide) ?_
      refine lv_iconst (v := 0) hx hb dX9_text_79 (by decide) ?_
      refine zz_iasc hx hb hK hP hS (g0.2.1) 5 (by decide) (by decide) dX9_text_80 (fun σ10 H locs w10 hP1 hS1 => ?_)
      replace hP := hP1
      replace hS := hS1
      clear hP1 hS1
      replace hC := hC.u w10 (dS33_15 h0)
      replace t0 : σ10 (h0 + 1) 2 = σ (h0 + 1) 2 := (zz_w (b := (h0 + 1)) (j := 2) w10 (fun q9 => absurd q9.2 (by decide))).trans t0
      replace t1 : σ10 (h0 + 1) 3 = σ (h0 + 1) 3 := (zz_w (b := (h0 + 1)) (j := 3) w10 (fun q9 => absurd q9.2 (by decide))).trans t1
      replace t2 : σ10 (h0 + 1) 0 = σ (h0 + 1) 0 := (zz_w (b := (h0 + 1)) (j := 0) w10 (fun q9 => absurd q9.2 (by decide))).trans t2
      replace t3 : σ10 (h0 + 1) 4 = σ (h0 + 1) 4 := (zz_w (b := (h0 + 1)) (j := 4) w10 (fun q9 => absurd q9.2 (by decide))).trans t3
      replace t4 : σ10 (h0 + 1) 5 = 0 := zz_w1 w10
      replace t5 : σ10 (h0 + 1) 6 = σ (h0 + 1) 6 := (zz_w (b := (h0 + 1)) (j := 6) w10 (fun q9 => absurd q9.2 (by decide))).trans t5
      replace t6 : σ10 (h0 + 1) 1 = σ (h0 + 1) 1 := (zz_w (b := (h0 + 1)) (j := 1) w10 (fun q9 => absurd q9.2 (by decide))).trans t6
      replace t7 : σ10 h0 11 = σ8 h0 11 := (zz_w (b := h0) (j := 11) w10 (fun q9 => zz_na (a := h0) (i := 0) (j := 1) (by decide) q9.1)).trans t7
      replace t8 : σ10 h0 12 = σ8 h0 12 := (zz_w (b := h0) (j := 12) w10 (fun q9 => zz_na (a := h0) (i := 0) (j := 1) (by decide) q9.1)).trans t8
      replace t9 : σ10 h0 13 = σ8 h0 13 := (zz_w (b := h0) (j := 13) w10 (fun q9 => zz_na (a := h0) (i := 0) (j := 1) (by decide) q9.1)).trans t9
      replace t10 : σ10 h0 14 = bd := (zz_w (b := h0) (j := 14) w10 (fun q9 => zz_na (a := h0) (i := 0) (j := 1) (by decide) q9.1)).trans t10
      replace t11 : σ10 h0 15 = use := (zz_w (b := h0) (j := 15) w10 (fun q9 => zz_na (a := h0) (i := 0) (j := 1) (by decide) q9.1)).trans t11
      refine lv_aload_n hx hb dX9_text_81 rfl (lv_at hl 0 rfl) ?_
      refine zz_geti hx hb hts hi9 hown hK hP (g0.1) rfl 14 (by decide) (hts (.fieldLink RX9 130 "NoonLawModel" "bad" "Z") (List.mem_cons_of_mem _ bm_514)) rfl rfl t10 dX9_text_82 ?_
      refine lv_if_eq (tgt := 96) hx hb dX9_text_85 (by decide) (fun c11 => ?_) (fun c11 => ?_)
      · have c11 := zz_eqT c11
        obtain ⟨u, hu, hu2⟩ : ∃ u : Nat, u < 2 ∧ use.toInt = (u : Int) := ⟨use.toInt.toNat, by omega, by omega⟩
        obtain ⟨z1, z2, z3⟩ := hPP.2.2.2.2.2 (by omega)
        refine lv_sipush (v := 157) hx hb dX9_text_96 (by decide) ?_
        refine lv_bipush (v := 121) hx hb dX9_text_99 (by decide) ?_
        refine lv_iload_n hx hb dX9_text_101 rfl (lv_at hl 1 rfl) ?_
        refine lv_imul hx hb dX9_text_102 ?_
        refine lv_topi (fun n12 e12 => ?_)
        have f12 : n12.toInt = 121 * (use).toInt := zz_mulL 121 e12 (by decide) (by omega) (by omega)
        refine lv_iadd hx hb dX9_text_103 ?_
        refine lv_topi (fun n13 e13 => ?_)
        have f13 : n13.toInt = (157 : Int32).toInt + (n12).toInt := zz_addT e13 (by omega) (by omega)
        refine lv_istore_n (lv' := [(2, .int n13), (0, .ref h0), (1, .int use)]) hx hb dX9_text_104 rfl hl (by decide) rfl (fun ls hl => ?_)
        refine lv_aload_n hx hb dX9_text_105 rfl (lv_at hl 1 rfl) ?_
        refine zz_getr hx hb hts hi9 hown hK hP (g0.1) rfl 0 (by decide) (hts (.fieldLink RX9 9 "NoonLawModel" "row" "[I") (List.mem_cons_of_mem _ bm_93)) rfl rfl dX9_text_106 ?_
        refine lv_iload_n hx hb dX9_text_109 rfl (lv_at hl 0 rfl) ?_
        refine lv_aload_n hx hb dX9_text_110 rfl (lv_at hl 1 rfl) ?_
        refine zz_geti hx hb hts hi9 hown hK hP (g0.1) rfl 11 (by decide) (hts (.fieldLink RX9 120 "NoonLawModel" "laid" "I") (List.mem_cons_of_mem _ bm_511)) rfl rfl t7 dX9_text_111 ?_
        refine zz_iast hx hb hK hP hS (g0.2.1) (by omega) (by omega) dX9_text_114 (fun j14 σ14 H locs q14 r14 w14 hP1 hS1 => ?_)
        replace hP := hP1
        replace hS := hS1
        clear hP1 hS1
        replace hC := hC.u w14 (by first | (dsimp only; omega) | omega | (dsimp only; done))
        replace t0 : σ14 (h0 + 1) 2 = σ (h0 + 1) 2 := (zz_w (b := (h0 + 1)) (j := 2) w14 (by omega)).trans t0
        replace t1 : σ14 (h0 + 1) 3 = σ (h0 + 1) 3 := (zz_w (b := (h0 + 1)) (j := 3) w14 (by omega)).trans t1
        replace t2 : σ14 (h0 + 1) 0 = σ (h0 + 1) 0 := (zz_w (b := (h0 + 1)) (j := 0) w14 (by omega)).trans t2
        replace t3 : σ14 (h0 + 1) 4 = σ (h0 + 1) 4 := (zz_w (b := (h0 + 1)) (j := 4) w14 (by omega)).trans t3
        replace t4 : σ14 (h0 + 1) 5 = 0 := (zz_w (b := (h0 + 1)) (j := 5) w14 (by omega)).trans t4
        replace t5 : σ14 (h0 + 1) 6 = σ (h0 + 1) 6 := (zz_w (b := (h0 + 1)) (j := 6) w14 (by omega)).trans t5
        replace t6 : σ14 (h0 + 1) 1 = σ (h0 + 1) 1 := (zz_w (b := (h0 + 1)) (j := 1) w14 (by omega)).trans t6
        replace t7 : σ14 h0 11 = σ8 h0 11 := (zz_w (b := h0) (j := 11) w14 (fun q9 => zz_na (a := h0) (i := 0) (j := 1) (by decide) q9.1)).trans t7
        replace t8 : σ14 h0 12 = σ8 h0 12 := (zz_w (b := h0) (j := 12) w14 (fun q9 => zz_na (a := h0) (i := 0) (j := 1) (by decide) q9.1)).trans t8
        replace t9 : σ14 h0 13 = σ8 h0 13 := (zz_w (b := h0) (j := 13) w14 (fun q9 => zz_na (a := h0) (i := 0) (j := 1) (by decide) q9.1)).trans t9
        replace t10 : σ14 h0 14 = bd := (zz_w (b := h0) (j := 14) w14 (fun q9 => zz_na (a := h0) (i := 0) (j := 1) (by decide) q9.1)).trans t10
        replace t11 : σ14 h0 15 = use := (zz_w (b := h0) (j := 15) w14 (fun q9 => zz_na (a := h0) (i := 0) (j := 1) (by decide) q9.1)).trans t11
        refine lv_iconst (v := 0) hx hb dX9_text_115 (by decide) ?_
        refine lv_istore_n (lv' := [(3, .int 0), (2, .int n13), (0, .ref h0), (1, .int use)]) hx hb dX9_text_116 rfl hl (by decide) rfl (fun ls hl => ?_)
        have J117 : ∀ (n : Nat) (ii : Int32) (σa : zz_S) (H : Heap) (locs : List Loc) (ls : Array Slot), ((60 - ii.toInt).toNat) < n → (zz_ch (fun a k => (a = h0 + 3 ∨ (h0 + 7 ≤ a ∧ a ≤ h0 + 11)) ∨ (a = h0 ∧ 11 ≤ k ∧ k ≤ 15) ∨ (a = h0 + 1 ∧ (k = 5 ∨ 157 ≤ k))) σ σa) → (0 ≤ ii.toInt ∧ ii.toInt ≤ (σ8 h0 11).toInt) → ((σa (h0 + 1) (157 + 121 * u)).toInt = (σ8 h0 11).toInt) → (∀ k : Nat, (k : Int) < ii.toInt → σa (h0 + 1) (158 + 121 * u + k) = σ8 (h0 + 7) k) → (∀ k : Nat, (k : Int) < ii.toInt → σa (h0 + 1) (218 + 121 * u + k) = σ8 (h0 + 8) k) → (∀ k : Nat, 157 ≤ k → (k < 157 + 121 * u ∨ 278 + 121 * u ≤ k) → σa (h0 + 1) k = σ (h0 + 1) k) → (∀ k : Nat, σa (h0 + 7) k = σ8 (h0 + 7) k) → (∀ k : Nat, σa (h0 + 8) k = σ8 (h0 + 8) k) → (σa (h0 + 1) 2 = σ (h0 + 1) 2) → (σa (h0 + 1) 3 = σ (h0 + 1) 3) → (σa (h0 + 1) 0 = σ (h0 + 1) 0) → (σa (h0 + 1) 4 = σ (h0 + 1) 4) → (σa (h0 + 1) 5 = 0) → (σa (h0 + 1) 6 = σ (h0 + 1) 6) → (σa (h0 + 1) 1 = σ (h0 + 1) 1) → (σa h0 11 = σ8 h0 11) → (σa h0 12 = σ8 h0 12) → (σa h0 13 = σ8 h0 13) → (σa h0 14 = bd) → (σa h0 15 = use) → zz_P E σa H → va_S (zz_A E) s.heap H locs → lv_has ls 4 [(3, .int ii), (2, .int n13), (0, .ref h0), (1, .int use)] → W p l e (headSpec wzX9_text ({ frames := 67, cells := 0, slots := 0, locals := 3680 })).room s m args below meth c H locs 0 0 (MQ below (va_Qi (fun r σ1 => zz_ch (fun a k => (a = h0 + 3 ∨ (h0 + 7 ≤ a ∧ a ≤ h0 + 11)) ∨ (a = h0 ∧ 11 ≤ k ∧ k ≤ 15) ∨ (a = h0 + 1 ∧ (k = 5 ∨ 157 ≤ k))) σ σ1 ∧ (zz_IM σ1 h0 ∧ (((use.toInt < 0 ∨ 1 < use.toInt) ∧ (σ1 (h0 + 1) 5).toInt = (σ (h0 + 1) 5).toInt ∧ r.toInt = -1000000001 ∧ zz_MT σ1 (h0 + 1) = zz_MT σ (h0 + 1) ∧ zz_Tm σ1 (h0 + 1) = zz_Tm σ (h0 + 1)) ∨ (0 ≤ use.toInt ∧ use.toInt ≤ 1 ∧ (σ1 (h0 + 1) 5).toInt = 0 ∧ zz_tm (zz_PQ (zz_Tm σ (h0 + 1)) use.toInt 0) (σ (h0 + 1) 5).toInt r.toInt (zz_MT σ (h0 + 1)) (zz_MT σ1 (h0 + 1)) use.toInt)))) (zz_B E) (zz_A E)) args s 0 0 (zz_A E)) (F0 m 117 ls []) := by
          intro n
          induction n with
          | zero => intro ii σa H locs ls hm; exact absurd hm (Nat.not_lt_zero _)
          | succ n ih117 =>
            intro ii σa H locs ls hm hC f117_0 f117_1 f117_2 f117_3 f117_4 f117_5 f117_6 t0 t1 t2 t3 t4 t5 t6 t7 t8 t9 t10 t11 hP hS hl
            refine lv_iload_n hx hb dX9_text_117 rfl (lv_at hl 0 rfl) ?_
            refine lv_aload_n hx hb dX9_text_118 rfl (lv_at hl 2 rfl) ?_
            refine zz_geti hx hb hts hi9 hown hK hP (g0.1) rfl 11 (by decide) (hts (.fieldLink RX9 120 "NoonLawModel" "laid" "I") (List.mem_cons_of_mem _ bm_511)) rfl rfl t7 dX9_text_119 ?_
            refine lv_icmp_ge (tgt := 164) hx hb dX9_text_122 (by decide) (fun c15 => ?_) (fun c15 => ?_)
            · have c15 := zz_leT c15
              refine lv_iconst (v := 1) hx hb dX9_text_164 (by decide) ?_
              have hgo := hq9.ok (by omega)
              have hgp := hq9.1
              have hgt := hgo.2.get hq0
              exact zz_iret hx hb hr hlocks hK hP hS dX9_text_165 (by exact ⟨hC, (hJ.text (hI.text hu (fun k h1 h2 => hC _ _ (by first | (dsimp only; omega) | omega)) (by rw [t4]; exact k_0) (by rw [f117_1]; omega) (by rw [f117_1]; exact z2) (fun k hk => f117_2 k (by omega)) (fun k hk => f117_3 k (by omega)) (fun k h1 h2 => f117_4 k h1 h2)) (hC.mono (by intro a k h; first | (dsimp only at h ⊢; omega) | omega))), Or.inr ⟨by omega, by omega, by rw [t4]; exact k_0, Or.inl ⟨hgo.1, by rw [← hgp]; omega, k_1, zz_MT.new (u := u) (by omega) hu (by rw [f117_1]; exact hgt.1) (fun k hk => by rw [f117_2 k (by rw [← hgt.1] at hk; omega)]; exact hgt.2.1 k hk) (fun k hk => by rw [f117_3 k (by rw [← hgt.1] at hk; omega)]; exact hgt.2.2 k hk) (fun v hv => (hT v hv).1.2) (fun k h1 h2 => f117_4 k h1 h2)⟩⟩⟩)
            · have c15 := zz_nleT c15
              refine lv_aload_n hx hb dX9_text_125 rfl (lv_at hl 2 rfl) ?_
              refine zz_getr hx hb hts hi9 hown hK hP (g0.1) rfl 0 (by decide) (hts (.fieldLink RX9 9 "NoonLawModel" "row" "[I") (List.mem_cons_of_mem _ bm_93)) rfl rfl dX9_text_126 ?_
              refine lv_iload_n hx hb dX9_text_129 rfl (lv_at hl 1 rfl) ?_
              refine lv_iconst (v := 1) hx hb dX9_text_130 (by decide) ?_
              refine lv_iadd hx hb dX9_text_131 ?_
              refine lv_topi (fun n16 e16 => ?_)
              have f16 : n16.toInt = (n13).toInt + (1 : Int32).toInt := zz_addT e16 (by omega) (by omega)
              refine lv_iload_n hx hb dX9_text_132 rfl (lv_at hl 0 rfl) ?_
              refine lv_iadd hx hb dX9_text_133 ?_
              refine lv_topi (fun n17 e17 => ?_)
              have f17 : n17.toInt = (n16).toInt + (ii).toInt := zz_addT e17 (by omega) (by omega)
              refine lv_aload_n hx hb dX9_text_134 rfl (lv_at hl 2 rfl) ?_
              refine zz_getr hx hb hts hi9 hown hK hP (g0.1) rfl 7 (by decide) (hts (.fieldLink RX9 28 "NoonLawModel" "act" "[I") (List.mem_cons_of_mem _ bm_99)) rfl rfl dX9_text_135 ?_
              refine lv_iload_n hx hb dX9_text_138 rfl (lv_at hl 0 rfl) ?_
              refine zz_iald hx hb hK hP (g0.2.2.2.2.2.2.2.1) (by omega) (by omega) dX9_text_139 (fun j18 q18 r18 => ?_)
              skip
              refine zz_iast hx hb hK hP hS (g0.2.1) (by omega) (by omega) dX9_text_140 (fun j19 σ19 H locs q19 r19 w19 hP1 hS1 => ?_)
              replace hP := hP1
              replace hS := hS1
              clear hP1 hS1
              replace hC := hC.u w19 (by first | (dsimp only; omega) | omega | (dsimp only; done))
              replace t0 : σ19 (h0 + 1) 2 = σ (h0 + 1) 2 := (zz_w (b := (h0 + 1)) (j := 2) w19 (by omega)).trans t0
              replace t1 : σ19 (h0 + 1) 3 = σ (h0 + 1) 3 := (zz_w (b := (h0 + 1)) (j := 3) w19 (by omega)).trans t1
              replace t2 : σ19 (h0 + 1) 0 = σ (h0 + 1) 0 := (zz_w (b := (h0 + 1)) (j := 0) w19 (by omega)).trans t2
              replace t3 : σ19 (h0 + 1) 4 = σ (h0 + 1) 4 := (zz_w (b := (h0 + 1)) (j := 4) w19 (by omega)).trans t3
              replace t4 : σ19 (h0 + 1) 5 = 0 := (zz_w (b := (h0 + 1)) (j := 5) w19 (by omega)).trans t4
              replace t5 : σ19 (h0 + 1) 6 = σ (h0 + 1) 6 := (zz_w (b := (h0 + 1)) (j := 6) w19 (by omega)).trans t5
              replace t6 : σ19 (h0 + 1) 1 = σ (h0 + 1) 1 := (zz_w (b := (h0 + 1)) (j := 1) w19 (by omega)).trans t6
              replace t7 : σ19 h0 11 = σ8 h0 11 := (zz_w (b := h0) (j := 11) w19 (fun q9 => zz_na (a := h0) (i := 0) (j := 1) (by decide) q9.1)).trans t7
              replace t8 : σ19 h0 12 = σ8 h0 12 := (zz_w (b := h0) (j := 12) w19 (fun q9 => zz_na (a := h0) (i := 0) (j := 1) (by decide) q9.1)).trans t8
              replace t9 : σ19 h0 13 = σ8 h0 13 := (zz_w (b := h0) (j := 13) w19 (fun q9 => zz_na (a := h0) (i := 0) (j := 1) (by decide) q9.1)).trans t9
              replace t10 : σ19 h0 14 = bd := (zz_w (b := h0) (j := 14) w19 (fun q9 => zz_na (a := h0) (i := 0) (j := 1) (by decide) q9.1)).trans t10
              replace t11 : σ19 h0 15 = use := (zz_w (b := h0) (j := 15) w19 (fun q9 => zz_na (a := h0) (i := 0) (j := 1) (by decide) q9.1)).trans t11
              refine lv_aload_n hx hb dX9_text_141 rfl (lv_at hl 2 rfl) ?_
              refine zz_getr hx hb hts hi9 hown hK hP (g0.1) rfl 0 (by decide) (hts (.fieldLink RX9 9 "NoonLawModel" "row" "[I") (List.mem_cons_of_mem _ bm_93)) rfl rfl dX9_text_142 ?_
              refine lv_iload_n hx hb dX9_text_145 rfl (lv_at hl 1 rfl) ?_
              refine lv_bipush (v := 61) hx hb dX9_text_146 (by decide) ?_
              refine lv_iadd hx hb dX9_text_148 ?_
              refine lv_topi (fun n20 e20 => ?_)
              have f20 : n20.toInt = (n13).toInt + (61 : Int32).toInt := zz_addT e20 (by omega) (by omega)
              refine lv_iload_n hx hb dX9_text_149 rfl (lv_at hl 0 rfl) ?_
              refine lv_iadd hx hb dX9_text_150 ?_
              refine lv_topi (fun n21 e21 => ?_)
              have f21 : n21.toInt = (n20).toInt + (ii).toInt := zz_addT e21 (by omega) (by omega)
              refine lv_aload_n hx hb dX9_text_151 rfl (lv_at hl 2 rfl) ?_
              refine zz_getr hx hb hts hi9 hown hK hP (g0.1) rfl 8 (by decide) (hts (.fieldLink RX9 31 "NoonLawModel" "with" "[I") (List.mem_cons_of_mem _ bm_100)) rfl rfl dX9_text_152 ?_
              refine lv_iload_n hx hb dX9_text_155 rfl (lv_at hl 0 rfl) ?_
              refine zz_iald hx hb hK hP (g0.2.2.2.2.2.2.2.2.1) (by omega) (by omega) dX9_text_156 (fun j22 q22 r22 => ?_)
              skip
              refine zz_iast hx hb hK hP hS (g0.2.1) (by omega) (by omega) dX9_text_157 (fun j23 σ23 H locs q23 r23 w23 hP1 hS1 => ?_)
              replace hP := hP1
              replace hS := hS1
              clear hP1 hS1
              replace hC := hC.u w23 (by first | (dsimp only; omega) | omega | (dsimp only; done))
              replace t0 : σ23 (h0 + 1) 2 = σ (h0 + 1) 2 := (zz_w (b := (h0 + 1)) (j := 2) w23 (by omega)).trans t0
              replace t1 : σ23 (h0 + 1) 3 = σ (h0 + 1) 3 := (zz_w (b := (h0 + 1)) (j := 3) w23 (by omega)).trans t1
              replace t2 : σ23 (h0 + 1) 0 = σ (h0 + 1) 0 := (zz_w (b := (h0 + 1)) (j := 0) w23 (by omega)).trans t2
              replace t3 : σ23 (h0 + 1) 4 = σ (h0 + 1) 4 := (zz_w (b := (h0 + 1)) (j := 4) w23 (by omega)).trans t3
              replace t4 : σ23 (h0 + 1) 5 = 0 := (zz_w (b := (h0 + 1)) (j := 5) w23 (by omega)).trans t4
              replace t5 : σ23 (h0 + 1) 6 = σ (h0 + 1) 6 := (zz_w (b := (h0 + 1)) (j := 6) w23 (by omega)).trans t5
              replace t6 : σ23 (h0 + 1) 1 = σ (h0 + 1) 1 := (zz_w (b := (h0 + 1)) (j := 1) w23 (by omega)).trans t6
              replace t7 : σ23 h0 11 = σ8 h0 11 := (zz_w (b := h0) (j := 11) w23 (fun q9 => zz_na (a := h0) (i := 0) (j := 1) (by decide) q9.1)).trans t7
              replace t8 : σ23 h0 12 = σ8 h0 12 := (zz_w (b := h0) (j := 12) w23 (fun q9 => zz_na (a := h0) (i := 0) (j := 1) (by decide) q9.1)).trans t8
              replace t9 : σ23 h0 13 = σ8 h0 13 := (zz_w (b := h0) (j := 13) w23 (fun q9 => zz_na (a := h0) (i := 0) (j := 1) (by decide) q9.1)).trans t9
              replace t10 : σ23 h0 14 = bd := (zz_w (b := h0) (j := 14) w23 (fun q9 => zz_na (a := h0) (i := 0) (j := 1) (by decide) q9.1)).trans t10
              replace t11 : σ23 h0 15 = use := (zz_w (b := h0) (j := 15) w23 (fun q9 => zz_na (a := h0) (i := 0) (j := 1) (by decide) q9.1)).trans t11
              obtain ⟨n24, e24⟩ : ∃ y : Int32, y = ii + 1 := ⟨_, rfl⟩
              have f24 : n24.toInt = (ii).toInt + (1) := by have h9 := zz_addT e24 (by omega) (by omega); omega
              refine lv_iinc (v := n24) (lv' := [(3, .int n24), (2, .int n13), (0, .ref h0), (1, .int use)]) hx hb dX9_text_158 hl (k := 0) rfl (by rw [e24]; rfl) (by decide) rfl (fun ls hl => ?_)
              refine lv_goto (tgt := 117) hx hb dX9_text_161 (by decide) ?_
              exact ih117 n24 σ23 _ _ _ (by omega) hC (by omega) (by rw [w23, zz_un (by omega), w19, zz_un (by omega)]; exact f117_1) (by intro k hk; exact if hq : (k : Int) = ii.toInt then (by rw [w23, zz_un (by omega), w19, show 158 + 121 * u + k = j19 from by omega, zz_us, f117_5, show j18 = k from by omega]) else (by rw [w23, zz_un (by omega), w19, zz_un (by omega)]; exact f117_2 k (by omega))) (by intro k hk; exact if hq : (k : Int) = ii.toInt then (by rw [w23, show 218 + 121 * u + k = j23 from by omega, zz_us, w19, zz_un (by omega), f117_6, show j22 = k from by omega]) else (by rw [w23, zz_un (by omega), w19, zz_un (by omega)]; exact f117_3 k (by omega))) (by intro k h1 h2; rw [w23, zz_un (by omega), w19, zz_un (by omega)]; exact f117_4 k h1 h2) (by intro k; rw [w23, zz_un (by omega), w19, zz_un (by omega)]; exact f117_5 k) (by intro k; rw [w23, zz_un (by omega), w19, zz_un (by omega)]; exact f117_6 k) t0 t1 t2 t3 t4 t5 t6 t7 t8 t9 t10 t11 hP hS (lv_sub hl [0, 1, 2, 3] rfl)
        exact J117 _ 0 σ14 _ _ _ (Nat.lt_succ_self _) hC (by omega) (by rw [w14, show 157 + 121 * u = j14 from by omega, zz_us]) (by intro k hk; exact absurd hk (by omega)) (by intro k hk; exact absurd hk (by omega)) (by intro k h1 h2; rw [w14, zz_un (by omega), w10, zz_un (by omega), w9, zz_un (by omega), w8 _ _ (by first | (dsimp only; omega) | omega), w7, zz_un (by omega), w6, zz_un (by omega), w5, zz_un (by omega), w4, zz_un (by omega), w3, zz_un (by omega)]) (by intro k; rw [w14, zz_un (by omega), w10, zz_un (by omega), w9, zz_un (by omega)]) (by intro k; rw [w14, zz_un (by omega), w10, zz_un (by omega), w9, zz_un (by omega)]) t0 t1 t2 t3 t4 t5 t6 t7 t8 t9 t10 t11 hP hS (lv_sub hl [0, 1, 2, 3] rfl)
      · have c11 := zz_neT c11
        refine lv_bipush (v := (-10)) hx hb dX9_text_88 (by decide) ?_
        refine lv_aload_n hx hb dX9_text_90 rfl (lv_at hl 0 rfl) ?_
        refine zz_geti hx hb hts hi9 hown hK hP (g0.1) rfl 12 (by decide) (hts (.fieldLink RX9 116 "NoonLawModel" "here" "I") (List.mem_cons_of_mem _ bm_512)) rfl rfl t8 dX9_text_91 ?_
        refine lv_isub hx hb dX9_text_94 ?_
        refine lv_topi (fun n25 e25 => ?_)
        have f25 : n25.toInt = ((-10) : Int32).toInt - (σ8 h0 12).toInt := zz_subT e25 (by omega) (by omega)
        have hgb := hq9.bad
        have hgp := hq9.1
        exact zz_iret hx hb hr hlocks hK hP hS dX9_text_95 (by exact ⟨hC, (hJ.text (hI.scal (fun k hk => by rw [w10, zz_un (by omega), w9, zz_un (by omega), w8 _ _ (by first | (dsimp only; omega) | omega), w7, zz_un (by omega), w6, zz_un (by omega), w5, zz_un (by omega), w4, zz_un (by omega), w3, zz_un (by omega)]) (fun j hj => by rw [hC _ _ (by first | (dsimp only; omega) | omega)]; exact hM j hj) (by rw [t2]; omega) (by rw [t3]; omega) (by rw [t0]; omega) (by rw [t1]; omega) (by rw [t4]; omega) (by rw [t5]; omega)) (hC.mono (by intro a k h; first | (dsimp only at h ⊢; omega) | omega))), Or.inr ⟨by omega, by omega, by rw [t4]; exact k_0, Or.inr ⟨fun q => by obtain ⟨qa, qb⟩ := q; rw [← hgp] at qb; omega, by rw [← hgp]; omega, (zz_MT.hi (fun k hk => by rw [w10, zz_un (by omega), w9, zz_un (by omega), w8 _ _ (by first | (dsimp only; omega) | omega), w7, zz_un (by omega), w6, zz_un (by omega), w5, zz_un (by omega), w4, zz_un (by omega), w3, zz_un (by omega)]))⟩⟩⟩)
    refine lv_aload_n hx hb dX9_text_46 rfl (lv_at hl 0 rfl) ?_
    refine zz_geti hx hb hts hi9 hown hK hP (g0.1) rfl 14 (by decide) (hts (.fieldLink RX9 130 "NoonLawModel" "bad" "Z") (List.mem_cons_of_mem _ bm_514)) rfl rfl t10 dX9_text_47 ?_
    refine lv_if_ne (tgt := 66) hx hb dX9_text_50 (by decide) (fun c26 => ?_) (fun c26 => ?_)
    · have c26 := zz_neT c26
      refine lv_iconst (v := 1) hx hb dX9_text_66 (by decide) ?_
      refine lv_goto (tgt := 71) hx hb dX9_text_67 (by decide) ?_
      exact J71 1 _ _ _ (by first | omega | exact hI | exact hT) hP hS (lv_sub hl [0, 1] rfl)
    · have c26 := zz_eqT c26
      refine lv_aload_n hx hb dX9_text_53 rfl (lv_at hl 0 rfl) ?_
      refine zz_geti hx hb hts hi9 hown hK hP (g0.1) rfl 12 (by decide) (hts (.fieldLink RX9 116 "NoonLawModel" "here" "I") (List.mem_cons_of_mem _ bm_512)) rfl rfl t8 dX9_text_54 ?_
      refine lv_aload_n hx hb dX9_text_57 rfl (lv_at hl 0 rfl) ?_
      refine zz_getr hx hb hts hi9 hown hK hP (g0.1) rfl 0 (by decide) (hts (.fieldLink RX9 9 "NoonLawModel" "row" "[I") (List.mem_cons_of_mem _ bm_93)) rfl rfl dX9_text_58 ?_
      refine lv_iconst (v := 5) hx hb dX9_text_61 (by decide) ?_
      refine zz_ialc hx hb hK hP (g0.2.1) 5 (by decide) (by decide) t4 dX9_text_62 ?_
      refine lv_icmp_ge (tgt := 70) hx hb dX9_text_63 (by decide) (fun c28 => ?_) (fun c28 => ?_)
      · have c28 := zz_leT c28
        refine lv_iconst (v := 0) hx hb dX9_text_70 (by decide) ?_
        exact J71 0 _ _ _ (by first | omega | exact hI | exact hT) hP hS (lv_sub hl [0, 1] rfl)
      · have c28 := zz_nleT c28
        refine lv_iconst (v := 1) hx hb dX9_text_66 (by decide) ?_
        refine lv_goto (tgt := 71) hx hb dX9_text_67 (by decide) ?_
        exact J71 1 _ _ _ (by first | omega | exact hI | exact hT) hP hS (lv_sub hl [0, 1] rfl)
  · have c2 := zz_eqT c2
    refine lv_aload_n hx hb dX9_text_9 rfl (lv_at hl 0 rfl) ?_
    refine lv_ldc (v := (-1000000001)) hx hb hown (hts (.constant RX9 93 (-1000000001)) (List.mem_cons_of_mem _ bm_138)) dX9_text_10 ?_
    refine zz_callVi (As := [.int (-1000000001)]) (rest := []) ⟨hx, hb, hml, hown, hts⟩ hK hP hS (c_X9_error l E σ h0 (-1000000001) g0 (by omega)) (cwV 1 hts gX9_text_X9_error rfl rfl rfl (by decide +kernel) ⟨Nat.le_of_ble_eq_true rfl, Nat.le_of_ble_eq_true rfl⟩) (g0.1) rfl rfl hl.1 rfl (Nat.le_of_ble_eq_true rfl) dX9_text_12 ⟨Nat.zero_le _, Nat.zero_le _⟩ (fun r29 σ29 H locs q29 hP1 hS1 => ?_)
    replace hP := hP1
    replace hS := hS1
    clear hP1 hS1
    try dsimp only at q29
    obtain ⟨w29, f29⟩ := q29
    replace hC := hC.tr (w29.mono (dS33_16 h0))
    replace t0 : σ29 (h0 + 1) 2 = σ (h0 + 1) 2 := (w29 (h0 + 1) 2 (dS33_17 h0)).trans t0
    replace t1 : σ29 (h0 + 1) 3 = σ (h0 + 1) 3 := (w29 (h0 + 1) 3 (dS33_17 h0)).trans t1
    replace t2 : σ29 (h0 + 1) 0 = σ (h0 + 1) 0 := (w29 (h0 + 1) 0 (dS33_17 h0)).trans t2
    replace t3 : σ29 (h0 + 1) 4 = σ (h0 + 1) 4 := (w29 (h0 + 1) 4 (dS33_17 h0)).trans t3
    replace t4 : σ29 (h0 + 1) 5 = σ (h0 + 1) 5 := (w29 (h0 + 1) 5 (dS33_17 h0)).trans t4
    replace t5 : σ29 (h0 + 1) 6 = σ (h0 + 1) 6 := (w29 (h0 + 1) 6 (dS33_17 h0)).trans t5
    replace t6 : σ29 (h0 + 1) 1 = σ (h0 + 1) 1 := (w29 (h0 + 1) 1 (dS33_17 h0)).trans t6
    replace t7 : σ29 h0 11 = σ h0 11 := (w29 h0 11 (dS33_18 h0)).trans t7
    replace t8 : σ29 h0 12 = σ h0 12 := (w29 h0 12 (dS33_18 h0)).trans t8
    replace t9 : σ29 h0 13 = σ h0 13 := (w29 h0 13 (dS33_18 h0)).trans t9
    replace t10 : σ29 h0 14 = σ h0 14 := (w29 h0 14 (dS33_18 h0)).trans t10
    replace t11 : σ29 h0 15 = σ h0 15 := (w29 h0 15 (dS33_18 h0)).trans t11
    exact zz_iret hx hb hr hlocks hK hP hS dX9_text_15 (by exact ⟨hC, (hJ.soft (w29.mono (by intro a k h; omega))), Or.inl ⟨by omega, by rw [t4], by omega, (zz_MT.eq (fun k _ _ => w29 _ _ (by first | (dsimp only; omega) | omega)) (fun u hu => (hT u hu).1.2)), (zz_Tm.eq (w29 _ _ (by first | (dsimp only; omega) | omega)) htc.2 (fun k _ => w29 _ _ (by first | (dsimp only; omega) | omega)))⟩⟩)
