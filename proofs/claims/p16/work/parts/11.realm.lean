theorem gX5_speaks_X5_utter : GoodIn wzX5_speaks (wsV RX5 36 RX5 yX5_utter wzX5_utter) := wz_co bm_804 (wz_co bm_805 (wz_co bm_806 (wz_co bm_22 (wz_in bm_807))))
theorem dS11_1 (x0 : Nat) : (x0) = x0 ∨ (x0) = x0 + 1 := by omega
theorem dS11_2 (x0 : Nat) : ∀ a k : Nat, ((a = (x0) ∧ (k = 1 ∨ k = 2)) ∨ a = (x0) + 1) → (a = x0 ∨ a = x0 + 1) := by intro a k h; omega
theorem dS11_3 (x0 : Nat) : ¬ (((x0) = (x0) ∧ ((3) = 1 ∨ (3) = 2)) ∨ (x0) = (x0) + 1) := by omega
theorem dS11_4 (x0 : Nat) : ¬ (((x0) = (x0) ∧ ((4) = 1 ∨ (4) = 2)) ∨ (x0) = (x0) + 1) := by omega
theorem dS11_5 (x0 : Nat) : ¬ (((x0) = (x0) ∧ ((5) = 1 ∨ (5) = 2)) ∨ (x0) = (x0) + 1) := by omega
set_option maxHeartbeats 4000000 in
set_option maxRecDepth 100000 in
theorem c_X5_speaks (l : Launch) (E : zz_E) (σ : zz_S) (h0 : Nat) (h1 : Nat) (nr : Int32) (vo : Int32) (x1 : Int32) (g0 : zz_Sp E h0) (g_h1 : zz_Dr E h1) (hap : h1 ≠ h0 ∧ h1 ≠ h0 + 1) : Met l yX5_speaks wzX5_speaks ({ frames := 51, cells := 0, slots := 0, locals := 2726 }) (va_Pc [.ref h0, .ref h1, .int nr, .int vo, .int x1] (zz_B E σ)) (va_Qi (fun r σ1 => zz_ch (fun a k => a = h0 ∨ a = h0 + 1) σ σ1 ∧ ((0 ≤ (σ1 h0 1).toInt ∧ (σ1 h0 1).toInt ≤ 30) ∧ zz_vs σ σ1 h0 r (zz_U20 (σ h1 0) (σ h1 1) nr vo (σ h1 0) x1 (0 : Int32).toInt))) (zz_B E) (zz_A E)) 0 0 (zz_A E) := by
  refine zz_met (cc := cX5_speaks) (maxL := 5) (ret := (some .int)) (by decide) rfl (Nat.le_of_ble_eq_true rfl) ?_
  intro p e s m args below meth c ls hx hb hr hts hown hlocks hml hK hP hS hl
  have hl : lv_has ls 5 [(0, .ref h0), (1, .ref h1), (2, .int nr), (3, .int vo), (4, .int x1)] := hl
  have hown : s.vm.findClass RX5 = some m.cls := hown
  have hi0 : ∀ w ∈ wsX00, w ∈ wzX5_speaks := fun w h => List.mem_cons_of_mem _ (hbw0 w h)
  have hi5 : ∀ w ∈ wsX50, w ∈ wzX5_speaks := fun w h => List.mem_cons_of_mem _ (hbw5 w h)
  have k_0 : (0 : Int32).toInt = 0 := by decide +kernel
  replace t0 : σ h0 1 = σ h0 1 := rfl
  replace t1 : σ h0 2 = σ h0 2 := rfl
  replace t2 : σ h0 3 = σ h0 3 := rfl
  replace t3 : σ h0 4 = σ h0 4 := rfl
  replace t4 : σ h0 5 = σ h0 5 := rfl
  replace t5 : σ h1 0 = σ h1 0 := rfl
  replace t6 : σ h1 1 = σ h1 1 := rfl
  have hC : zz_ch (fun a k => a = h0 ∨ a = h0 + 1) σ σ := zz_ch.rf σ
  refine lv_aload_n hx hb dX5_speaks_0 rfl (lv_at hl 0 rfl) ?_
  refine lv_aload_n hx hb dX5_speaks_1 rfl (lv_at hl 1 rfl) ?_
  refine zz_geti hx hb hts hi0 hown hK hP (g_h1) rfl 0 (by decide) (hts (.fieldLink RX5 15 "NoonLaw$Dream" "kind" "I") (List.mem_cons_of_mem _ bm_797)) rfl rfl t5 dX5_speaks_2 ?_
  refine zz_puti (v := σ h1 0) (ty := .int) hx hb hts hi5 tyX5 tyX5_ok nmX5 hown hK hP hS (g0.1) rfl 3 (by decide) (hts (.fieldLink RX5 21 "NoonLaw$Speaker" "kind" "I") (List.mem_cons_of_mem _ bm_798)) rfl rfl (by decide +kernel) rfl rfl rfl dX5_speaks_5 (fun σ1 H locs w1 hP1 hS1 => ?_)
  replace hP := hP1
  replace hS := hS1
  clear hP1 hS1
  replace hC := hC.u w1 (dS11_1 h0)
  replace t0 : σ1 h0 1 = σ h0 1 := (zz_w (b := h0) (j := 1) w1 (fun q9 => absurd q9.2 (by decide))).trans t0
  replace t1 : σ1 h0 2 = σ h0 2 := (zz_w (b := h0) (j := 2) w1 (fun q9 => absurd q9.2 (by decide))).trans t1
  replace t2 : σ1 h0 3 = σ h1 0 := zz_w1 w1
  replace t3 : σ1 h0 4 = σ h0 4 := (zz_w (b := h0) (j := 4) w1 (fun q9 => absurd q9.2 (by decide))).trans t3
  replace t4 : σ1 h0 5 = σ h0 5 := (zz_w (b := h0) (j := 5) w1 (fun q9 => absurd q9.2 (by decide))).trans t4
  replace t5 : σ1 h1 0 = σ h1 0 := (zz_w (b := h1) (j := 0) w1 (by omega)).trans t5
  replace t6 : σ1 h1 1 = σ h1 1 := (zz_w (b := h1) (j := 1) w1 (by omega)).trans t6
  refine lv_aload_n hx hb dX5_speaks_8 rfl (lv_at hl 0 rfl) ?_
  refine lv_aload_n hx hb dX5_speaks_9 rfl (lv_at hl 1 rfl) ?_
  refine zz_geti hx hb hts hi0 hown hK hP (g_h1) rfl 1 (by decide) (hts (.fieldLink RX5 22 "NoonLaw$Dream" "m" "I") (List.mem_cons_of_mem _ bm_799)) rfl rfl t6 dX5_speaks_10 ?_
  refine zz_puti (v := σ h1 1) (ty := .int) hx hb hts hi5 tyX5 tyX5_ok nmX5 hown hK hP hS (g0.1) rfl 4 (by decide) (hts (.fieldLink RX5 25 "NoonLaw$Speaker" "m" "I") (List.mem_cons_of_mem _ bm_800)) rfl rfl (by decide +kernel) rfl rfl rfl dX5_speaks_13 (fun σ2 H locs w2 hP1 hS1 => ?_)
  replace hP := hP1
  replace hS := hS1
  clear hP1 hS1
  replace hC := hC.u w2 (dS11_1 h0)
  replace t0 : σ2 h0 1 = σ h0 1 := (zz_w (b := h0) (j := 1) w2 (fun q9 => absurd q9.2 (by decide))).trans t0
  replace t1 : σ2 h0 2 = σ h0 2 := (zz_w (b := h0) (j := 2) w2 (fun q9 => absurd q9.2 (by decide))).trans t1
  replace t2 : σ2 h0 3 = σ h1 0 := (zz_w (b := h0) (j := 3) w2 (fun q9 => absurd q9.2 (by decide))).trans t2
  replace t3 : σ2 h0 4 = σ h1 1 := zz_w1 w2
  replace t4 : σ2 h0 5 = σ h0 5 := (zz_w (b := h0) (j := 5) w2 (fun q9 => absurd q9.2 (by decide))).trans t4
  replace t5 : σ2 h1 0 = σ h1 0 := (zz_w (b := h1) (j := 0) w2 (by omega)).trans t5
  replace t6 : σ2 h1 1 = σ h1 1 := (zz_w (b := h1) (j := 1) w2 (by omega)).trans t6
  refine lv_aload_n hx hb dX5_speaks_16 rfl (lv_at hl 0 rfl) ?_
  refine lv_iload_n hx hb dX5_speaks_17 rfl (lv_at hl 2 rfl) ?_
  refine zz_puti (v := nr) (ty := .int) hx hb hts hi5 tyX5 tyX5_ok nmX5 hown hK hP hS (g0.1) rfl 5 (by decide) (hts (.fieldLink RX5 26 "NoonLaw$Speaker" "k" "I") (List.mem_cons_of_mem _ bm_801)) rfl rfl (by decide +kernel) rfl rfl rfl dX5_speaks_18 (fun σ3 H locs w3 hP1 hS1 => ?_)
  replace hP := hP1
  replace hS := hS1
  clear hP1 hS1
  replace hC := hC.u w3 (dS11_1 h0)
  replace t0 : σ3 h0 1 = σ h0 1 := (zz_w (b := h0) (j := 1) w3 (fun q9 => absurd q9.2 (by decide))).trans t0
  replace t1 : σ3 h0 2 = σ h0 2 := (zz_w (b := h0) (j := 2) w3 (fun q9 => absurd q9.2 (by decide))).trans t1
  replace t2 : σ3 h0 3 = σ h1 0 := (zz_w (b := h0) (j := 3) w3 (fun q9 => absurd q9.2 (by decide))).trans t2
  replace t3 : σ3 h0 4 = σ h1 1 := (zz_w (b := h0) (j := 4) w3 (fun q9 => absurd q9.2 (by decide))).trans t3
  replace t4 : σ3 h0 5 = nr := zz_w1 w3
  replace t5 : σ3 h1 0 = σ h1 0 := (zz_w (b := h1) (j := 0) w3 (by omega)).trans t5
  replace t6 : σ3 h1 1 = σ h1 1 := (zz_w (b := h1) (j := 1) w3 (by omega)).trans t6
  refine lv_aload_n hx hb dX5_speaks_21 rfl (lv_at hl 0 rfl) ?_
  refine lv_iconst (v := 0) hx hb dX5_speaks_22 (by decide) ?_
  refine zz_puti (v := 0) (ty := .int) hx hb hts hi5 tyX5 tyX5_ok nmX5 hown hK hP hS (g0.1) rfl 1 (by decide) (hts (.fieldLink RX5 29 "NoonLaw$Speaker" "length" "I") (List.mem_cons_of_mem _ bm_802)) rfl rfl (by decide +kernel) rfl rfl rfl dX5_speaks_23 (fun σ4 H locs w4 hP1 hS1 => ?_)
  replace hP := hP1
  replace hS := hS1
  clear hP1 hS1
  replace hC := hC.u w4 (dS11_1 h0)
  replace t0 : σ4 h0 1 = 0 := zz_w1 w4
  replace t1 : σ4 h0 2 = σ h0 2 := (zz_w (b := h0) (j := 2) w4 (fun q9 => absurd q9.2 (by decide))).trans t1
  replace t2 : σ4 h0 3 = σ h1 0 := (zz_w (b := h0) (j := 3) w4 (fun q9 => absurd q9.2 (by decide))).trans t2
  replace t3 : σ4 h0 4 = σ h1 1 := (zz_w (b := h0) (j := 4) w4 (fun q9 => absurd q9.2 (by decide))).trans t3
  replace t4 : σ4 h0 5 = nr := (zz_w (b := h0) (j := 5) w4 (fun q9 => absurd q9.2 (by decide))).trans t4
  replace t5 : σ4 h1 0 = σ h1 0 := (zz_w (b := h1) (j := 0) w4 (by omega)).trans t5
  replace t6 : σ4 h1 1 = σ h1 1 := (zz_w (b := h1) (j := 1) w4 (by omega)).trans t6
  refine lv_aload_n hx hb dX5_speaks_26 rfl (lv_at hl 0 rfl) ?_
  refine lv_iconst (v := 0) hx hb dX5_speaks_27 (by decide) ?_
  refine zz_puti (v := 0) (ty := .boolean) hx hb hts hi5 tyX5 tyX5_ok nmX5 hown hK hP hS (g0.1) rfl 2 (by decide) (hts (.fieldLink RX5 32 "NoonLaw$Speaker" "parted" "Z") (List.mem_cons_of_mem _ bm_803)) rfl rfl (by decide +kernel) (zz_nz (by omega)) (zz_fz (by omega)) rfl dX5_speaks_28 (fun σ5 H locs w5 hP1 hS1 => ?_)
  replace hP := hP1
  replace hS := hS1
  clear hP1 hS1
  replace hC := hC.u w5 (dS11_1 h0)
  replace t0 : σ5 h0 1 = 0 := (zz_w (b := h0) (j := 1) w5 (fun q9 => absurd q9.2 (by decide))).trans t0
  replace t1 : σ5 h0 2 = 0 := zz_w1 w5
  replace t2 : σ5 h0 3 = σ h1 0 := (zz_w (b := h0) (j := 3) w5 (fun q9 => absurd q9.2 (by decide))).trans t2
  replace t3 : σ5 h0 4 = σ h1 1 := (zz_w (b := h0) (j := 4) w5 (fun q9 => absurd q9.2 (by decide))).trans t3
  replace t4 : σ5 h0 5 = nr := (zz_w (b := h0) (j := 5) w5 (fun q9 => absurd q9.2 (by decide))).trans t4
  replace t5 : σ5 h1 0 = σ h1 0 := (zz_w (b := h1) (j := 0) w5 (by omega)).trans t5
  replace t6 : σ5 h1 1 = σ h1 1 := (zz_w (b := h1) (j := 1) w5 (by omega)).trans t6
  refine lv_aload_n hx hb dX5_speaks_31 rfl (lv_at hl 0 rfl) ?_
  refine lv_iload_n hx hb dX5_speaks_32 rfl (lv_at hl 3 rfl) ?_
  refine lv_aload_n hx hb dX5_speaks_33 rfl (lv_at hl 0 rfl) ?_
  refine zz_geti hx hb hts hi5 hown hK hP (g0.1) rfl 3 (by decide) (hts (.fieldLink RX5 21 "NoonLaw$Speaker" "kind" "I") (List.mem_cons_of_mem _ bm_798)) rfl rfl t2 dX5_speaks_34 ?_
  refine lv_iload hx hb dX5_speaks_37 (lv_at hl 4 rfl) ?_
  refine lv_iconst (v := 0) hx hb dX5_speaks_39 (by decide) ?_
  have u0 : (σ5 h0 1).toInt = 0 := (congrArg Int32.toInt t0).trans k_0
  have hT9 : zz_TV σ5 (h0 + 1) = zz_TV σ (h0 + 1) := zz_TV.eq (fun k _ => by rw [w5, zz_un (by omega), w4, zz_un (by omega), w3, zz_un (by omega), w2, zz_un (by omega), w1, zz_un (by omega)])
  refine zz_callVi (As := [.int vo, .int (σ h1 0), .int x1, .int 0]) (rest := []) ⟨hx, hb, hml, hown, hts⟩ hK hP hS (c_X5_utter l E σ5 h0 vo (σ h1 0) x1 0 g0 (by first | omega | (rw [t0]; omega)) (by first | omega | (rw [t0]; omega))) (cwV 4 hts gX5_speaks_X5_utter rfl rfl rfl (by decide +kernel) ⟨Nat.le_of_ble_eq_true rfl, Nat.le_of_ble_eq_true rfl⟩) (g0.1) rfl rfl hl.1 rfl (Nat.le_of_ble_eq_true rfl) dX5_speaks_40 ⟨Nat.zero_le _, Nat.zero_le _⟩ (fun r6 σ6 H locs q6 hP1 hS1 => ?_)
  replace hP := hP1
  replace hS := hS1
  clear hP1 hS1
  try dsimp only at q6
  obtain ⟨w6, f6⟩ := q6
  replace hC := hC.tr (w6.mono (dS11_2 h0))
  try simp only [t0, t1, t2, t3, t4, t5, t6] at f6
  replace t0 : σ6 h0 1 = σ6 h0 1 := rfl
  replace t1 : σ6 h0 2 = σ6 h0 2 := rfl
  replace t2 : σ6 h0 3 = σ h1 0 := (w6 h0 3 (dS11_3 h0)).trans t2
  replace t3 : σ6 h0 4 = σ h1 1 := (w6 h0 4 (dS11_4 h0)).trans t3
  replace t4 : σ6 h0 5 = nr := (w6 h0 5 (dS11_5 h0)).trans t4
  replace t5 : σ6 h1 0 = σ h1 0 := (w6 _ _ (by first | (dsimp only; omega) | omega)).trans t5
  replace t6 : σ6 h1 1 = σ h1 1 := (w6 _ _ (by first | (dsimp only; omega) | omega)).trans t6
  exact zz_iret hx hb hr hlocks hK hP hS dX5_speaks_43 (by exact ⟨hC, by rw [t0]; omega, zz_vs.of u0 hT9 f6.2⟩)
theorem gX7_readsWhole_X7_readsLevel : GoodIn wzX7_readsWhole (wsV RX7 47 RX7 yX7_readsLevel wzX7_readsLevel) := wz_co bm_460 (wz_co bm_461 (wz_co bm_462 (wz_co bm_26 (wz_in bm_463))))
theorem dS11_6 (x0 : Nat) : (x0) = x0 ∨ (x0) = x0 + 1 ∨ (x0) = x0 + 2 := by omega
theorem dS11_7 (x0 : Nat) : ∀ a k : Nat, ((a = (x0) ∧ (k = 0 ∨ k = 1)) ∨ a = (x0) + 1) → (a = x0 ∨ a = x0 + 1 ∨ a = x0 + 2) := by intro a k h; omega
theorem dS11_8 (x0 : Nat) : ¬ (((x0) = (x0) ∧ ((4) = 0 ∨ (4) = 1)) ∨ (x0) = (x0) + 1) := by omega
set_option maxHeartbeats 4000000 in
set_option maxRecDepth 100000 in
theorem c_X7_readsWhole (l : Launch) (E : zz_E) (σ : zz_S) (h0 : Nat) (h1 : Nat) (cnt : Int32) (use : Int32) (g0 : zz_Rd E h0) (g_h1 : E.2.2.1 h1 = some (.inr (1, 60, none))) (hfit : ∀ j : Nat, j < 60 → fits .byte (.int (σ h1 j)) = true) (hap : h1 ≠ h0 ∧ h1 ≠ h0 + 1 ∧ h1 ≠ h0 + 2) (hcn : 0 ≤ cnt.toInt ∧ cnt.toInt ≤ 60) (huu : use.toInt = 0 ∨ use.toInt = 1) : Met l yX7_readsWhole wzX7_readsWhole ({ frames := 67, cells := 0, slots := 0, locals := 3685 }) (va_Pc [.ref h0, .ref h1, .int cnt, .int use] (zz_B E σ)) (va_Qi (fun r σ1 => zz_ch (fun a k => a = h0 ∨ a = h0 + 1 ∨ a = h0 + 2) σ σ1 ∧ ((0 ≤ (σ1 h0 0).toInt ∧ (σ1 h0 0).toInt ≤ 60) ∧ zz_W7 σ1 h0 r.toInt cnt.toInt (zz_PQ (zz_Tp σ h1 cnt.toInt) use.toInt 0))) (zz_B E) (zz_A E)) 0 0 (zz_A E) := by
  refine zz_met (cc := cX7_readsWhole) (maxL := 4) (ret := (some .boolean)) (by decide) rfl (Nat.le_of_ble_eq_true rfl) ?_
  intro p e s m args below meth c ls hx hb hr hts hown hlocks hml hK hP hS hl
  have hl : lv_has ls 4 [(0, .ref h0), (1, .ref h1), (2, .int cnt), (3, .int use)] := hl
  have hown : s.vm.findClass RX7 = some m.cls := hown
  have hi7 : ∀ w ∈ wsX70, w ∈ wzX7_readsWhole := fun w h => List.mem_cons_of_mem _ (hbw7 w h)
  have k_0 : (0 : Int32).toInt = 0 := by decide +kernel
  have k_1 : (1 : Int32).toInt = 1 := by decide +kernel
  have k_60 : (60 : Int32).toInt = 60 := by decide +kernel
  replace t0 : σ h0 1 = σ h0 1 := rfl
  replace t1 : σ h0 4 = σ h0 4 := rfl
  have hC : zz_ch (fun a k => a = h0 ∨ a = h0 + 1 ∨ a = h0 + 2) σ σ := zz_ch.rf σ
  refine lv_aload_n hx hb dX7_readsWhole_0 rfl (lv_at hl 0 rfl) ?_
  refine lv_iconst (v := 0) hx hb dX7_readsWhole_1 (by decide) ?_
  refine lv_iload_n hx hb dX7_readsWhole_2 rfl (lv_at hl 2 rfl) ?_
  refine lv_aload_n hx hb dX7_readsWhole_3 rfl (lv_at hl 1 rfl) ?_
  refine zz_alen hx hb hK hP (g_h1) rfl (v := 60) (by decide) dX7_readsWhole_4 ?_
  refine lv_bipush (v := 60) hx hb dX7_readsWhole_5 (by decide) ?_
  refine va_mmin hx hb (hml.trans hl.1.symm) hown (hts (.methodLink RX7 19 Lib.Math.min.name) (List.mem_cons_of_mem _ bm_450)) (hts (.static Lib.Math.min.name) (List.mem_cons_of_mem _ bm_226)) (hts (.initialized "java/lang/Math") (List.mem_cons_of_mem _ bm_227)) (hts (.code Lib.Math.min.name Lib.Math.min.code 2 (some .int)) (List.mem_cons_of_mem _ bm_228)) (Nat.le_of_ble_eq_true rfl) (Nat.le_of_ble_eq_true rfl) (Nat.zero_le _) (Nat.zero_le _) dX7_readsWhole_7 ?_
  refine lv_topi (fun n1 e1 => ?_)
  have f1 := zz_minT e1
  refine va_mmin hx hb (hml.trans hl.1.symm) hown (hts (.methodLink RX7 19 Lib.Math.min.name) (List.mem_cons_of_mem _ bm_450)) (hts (.static Lib.Math.min.name) (List.mem_cons_of_mem _ bm_226)) (hts (.initialized "java/lang/Math") (List.mem_cons_of_mem _ bm_227)) (hts (.code Lib.Math.min.name Lib.Math.min.code 2 (some .int)) (List.mem_cons_of_mem _ bm_228)) (Nat.le_of_ble_eq_true rfl) (Nat.le_of_ble_eq_true rfl) (Nat.zero_le _) (Nat.zero_le _) dX7_readsWhole_10 ?_
  refine lv_topi (fun n2 e2 => ?_)
  have f2 := zz_minT e2
  refine va_mmax hx hb (hml.trans hl.1.symm) hown (hts (.methodLink RX7 25 Lib.Math.max.name) (List.mem_cons_of_mem _ bm_451)) (hts (.static Lib.Math.max.name) (List.mem_cons_of_mem _ bm_230)) (hts (.initialized "java/lang/Math") (List.mem_cons_of_mem _ bm_227)) (hts (.code Lib.Math.max.name Lib.Math.max.code 2 (some .int)) (List.mem_cons_of_mem _ bm_231)) (Nat.le_of_ble_eq_true rfl) (Nat.le_of_ble_eq_true rfl) (Nat.zero_le _) (Nat.zero_le _) dX7_readsWhole_13 ?_
  refine lv_topi (fun n3 e3 => ?_)
  have f3 := zz_maxT e3
  refine zz_puti (v := n3) (ty := .int) hx hb hts hi7 tyX7 tyX7_ok nmX7 hown hK hP hS (g0.1) rfl 4 (by decide) (hts (.fieldLink RX7 28 "NoonLaw$TextReader" "size" "I") (List.mem_cons_of_mem _ bm_452)) rfl rfl (by decide +kernel) rfl rfl rfl dX7_readsWhole_16 (fun σ4 H locs w4 hP1 hS1 => ?_)
  replace hP := hP1
  replace hS := hS1
  clear hP1 hS1
  replace hC := hC.u w4 (dS11_6 h0)
  replace t0 : σ4 h0 1 = σ h0 1 := (zz_w (b := h0) (j := 1) w4 (fun q9 => absurd q9.2 (by decide))).trans t0
  replace t1 : σ4 h0 4 = n3 := zz_w1 w4
  refine lv_aload_n hx hb dX7_readsWhole_19 rfl (lv_at hl 1 rfl) ?_
  refine lv_iconst (v := 0) hx hb dX7_readsWhole_20 (by decide) ?_
  refine lv_aload_n hx hb dX7_readsWhole_21 rfl (lv_at hl 0 rfl) ?_
  refine zz_getr hx hb hts hi7 hown hK hP (g0.1) rfl 3 (by decide) (hts (.fieldLink RX7 15 "NoonLaw$TextReader" "tape" "[B") (List.mem_cons_of_mem _ bm_78)) rfl rfl dX7_readsWhole_22 ?_
  refine lv_iconst (v := 0) hx hb dX7_readsWhole_25 (by decide) ?_
  refine lv_aload_n hx hb dX7_readsWhole_26 rfl (lv_at hl 0 rfl) ?_
  refine zz_geti hx hb hts hi7 hown hK hP (g0.1) rfl 4 (by decide) (hts (.fieldLink RX7 28 "NoonLaw$TextReader" "size" "I") (List.mem_cons_of_mem _ bm_452)) rfl rfl t1 dX7_readsWhole_27 ?_
  refine zz_copy hx hb (hml.trans hl.1.symm) hown (hts (.methodLink RX7 32 arraycopyName) (List.mem_cons_of_mem _ bm_453)) (hts (.native arraycopyName) (List.mem_cons_of_mem _ bm_454)) (hts (.static arraycopyName) (List.mem_cons_of_mem _ bm_455)) (hts (.initialized "java/lang/System") (List.mem_cons_of_mem _ bm_456)) hK hP hS 1 rfl rfl (g_h1) (g0.2.2) (by omega) (by omega) (by omega) (by omega) (by omega) (fun j hj => by rw [(hC _ _ (by first | (dsimp only; omega) | omega))]; exact hfit j hj) (Nat.le_of_ble_eq_true rfl) (Nat.le_of_ble_eq_true rfl) dX7_readsWhole_30 (fun σ5 H locs w5 hP1 hS1 => ?_)
  replace hP := hP1
  replace hS := hS1
  clear hP1 hS1
  replace hC := hC.cp w5 (by intro k; first | (dsimp only; omega) | omega | (dsimp only; done))
  replace t0 : σ5 h0 1 = σ h0 1 := (by rw [w5, zz_cpb (by omega)] : σ5 h0 1 = σ4 h0 1).trans t0
  replace t1 : σ5 h0 4 = n3 := (by rw [w5, zz_cpb (by omega)] : σ5 h0 4 = σ4 h0 4).trans t1
  refine lv_aload_n hx hb dX7_readsWhole_33 rfl (lv_at hl 0 rfl) ?_
  refine lv_iload_n hx hb dX7_readsWhole_34 rfl (lv_at hl 3 rfl) ?_
  refine zz_puti (v := use) (ty := .int) hx hb hts hi7 tyX7 tyX7_ok nmX7 hown hK hP hS (g0.1) rfl 5 (by decide) (hts (.fieldLink RX7 38 "NoonLaw$TextReader" "use" "I") (List.mem_cons_of_mem _ bm_457)) rfl rfl (by decide +kernel) rfl rfl rfl dX7_readsWhole_35 (fun σ6 H locs w6 hP1 hS1 => ?_)
  replace hP := hP1
  replace hS := hS1
  clear hP1 hS1
  replace hC := hC.u w6 (dS11_6 h0)
  replace t0 : σ6 h0 1 = σ h0 1 := (zz_w (b := h0) (j := 1) w6 (fun q9 => absurd q9.2 (by decide))).trans t0
  replace t1 : σ6 h0 4 = n3 := (zz_w (b := h0) (j := 4) w6 (fun q9 => absurd q9.2 (by decide))).trans t1
  refine lv_aload_n hx hb dX7_readsWhole_38 rfl (lv_at hl 0 rfl) ?_
  refine lv_iconst (v := 0) hx hb dX7_readsWhole_39 (by decide) ?_
  refine zz_puti (v := 0) (ty := .int) hx hb hts hi7 tyX7 tyX7_ok nmX7 hown hK hP hS (g0.1) rfl 0 (by decide) (hts (.fieldLink RX7 41 "NoonLaw$TextReader" "place" "I") (List.mem_cons_of_mem _ bm_458)) rfl rfl (by decide +kernel) rfl rfl rfl dX7_readsWhole_40 (fun σ7 H locs w7 hP1 hS1 => ?_)
  replace hP := hP1
  replace hS := hS1
  clear hP1 hS1
  replace hC := hC.u w7 (dS11_6 h0)
  replace t0 : σ7 h0 1 = σ h0 1 := (zz_w (b := h0) (j := 1) w7 (fun q9 => absurd q9.2 (by decide))).trans t0
  replace t1 : σ7 h0 4 = n3 := (zz_w (b := h0) (j := 4) w7 (fun q9 => absurd q9.2 (by decide))).trans t1
  refine lv_aload_n hx hb dX7_readsWhole_43 rfl (lv_at hl 0 rfl) ?_
  refine lv_iconst (v := 0) hx hb dX7_readsWhole_44 (by decide) ?_
  refine zz_puti (v := 0) (ty := .int) hx hb hts hi7 tyX7 tyX7_ok nmX7 hown hK hP hS (g0.1) rfl 1 (by decide) (hts (.fieldLink RX7 44 "NoonLaw$TextReader" "length" "I") (List.mem_cons_of_mem _ bm_459)) rfl rfl (by decide +kernel) rfl rfl rfl dX7_readsWhole_45 (fun σ8 H locs w8 hP1 hS1 => ?_)
  replace hP := hP1
  replace hS := hS1
  clear hP1 hS1
  replace hC := hC.u w8 (dS11_6 h0)
  replace t0 : σ8 h0 1 = 0 := zz_w1 w8
  replace t1 : σ8 h0 4 = n3 := (zz_w (b := h0) (j := 4) w8 (fun q9 => absurd q9.2 (by decide))).trans t1
  have hT9 : zz_hX σ8 h0 (zz_Tp σ h1 cnt.toInt) := by
    intro p
    unfold zz_Tp
    have e4 : (σ8 h0 4).toInt = cnt.toInt := by rw [t1]; omega
    rw [e4]
    by_cases q : 0 ≤ p ∧ p < cnt.toInt
    · rw [if_pos q, if_pos q, w8, zz_un (by omega), w7, zz_un (by omega), w6, zz_un (by omega), zz_cpk w5 k_0 k_0 (by omega), w4, zz_un (by omega)]
    · rw [if_neg q, if_neg q]
  have hx0 : (σ8 h0 0).toInt = 0 := by rw [w8, zz_un (by omega), w7, zz_us]; exact k_0
  have hx1 : (σ8 h0 1).toInt = 0 := by rw [w8, zz_us]; exact k_0
  have hx5 : (σ8 h0 5).toInt = use.toInt := by rw [w8, zz_un (by omega), w7, zz_un (by omega), w6, zz_us]
  refine lv_aload_n hx hb dX7_readsWhole_48 rfl (lv_at hl 0 rfl) ?_
  refine lv_iconst (v := 0) hx hb dX7_readsWhole_49 (by decide) ?_
  refine lv_iconst (v := 0) hx hb dX7_readsWhole_50 (by decide) ?_
  refine zz_callVi (As := [.int 0, .int 0]) (rest := []) ⟨hx, hb, hml, hown, hts⟩ hK hP hS (c_X7_readsLevel l E σ8 h0 0 0 g0 (by first | omega | (rw [t0]; omega) | (rw [t1]; omega)) (by first | omega | (rw [t0]; omega) | (rw [t1]; omega)) (by omega) (zz_Tp σ h1 cnt.toInt) use.toInt (by exact hT9) (by exact hx5) (by exact huu) (by first | omega | (rw [t0]; omega) | (rw [t1]; omega)) (by first | omega | (rw [t0]; omega) | (rw [t1]; omega))) (cwV 2 hts gX7_readsWhole_X7_readsLevel rfl rfl rfl (by decide +kernel) ⟨Nat.le_of_ble_eq_true rfl, Nat.le_of_ble_eq_true rfl⟩) (g0.1) rfl rfl hl.1 rfl (Nat.le_of_ble_eq_true rfl) dX7_readsWhole_51 ⟨Nat.zero_le _, Nat.zero_le _⟩ (fun r9 σ9 H locs q9 hP1 hS1 => ?_)
  replace hP := hP1
  replace hS := hS1
  clear hP1 hS1
  try dsimp only at q9
  obtain ⟨w9, f9⟩ := q9
  replace hC := hC.tr (w9.mono (dS11_7 h0))
  try simp only [t0, t1] at f9
  replace t0 : σ9 h0 1 = σ9 h0 1 := rfl
  replace t1 : σ9 h0 4 = n3 := (w9 h0 4 (dS11_8 h0)).trans t1
  refine lv_if_eq (tgt := 72) hx hb dX7_readsWhole_54 (by decide) (fun c10 => ?_) (fun c10 => ?_)
  · have c10 := zz_eqT c10
    refine lv_iconst (v := 0) hx hb dX7_readsWhole_72 (by decide) ?_
    have hq9 := f9.2
    rw [hx0] at hq9
    exact zz_zret hx hb hr hlocks hK hP hS dX7_readsWhole_73 (zz_01 (by omega)) (by exact ⟨hC, by omega, zz_q7.whole hq9 hx1 (Or.inr (Or.inl ⟨by omega, by omega⟩))⟩)
  · have c10 := zz_neT c10
    skip
    refine lv_aload_n hx hb dX7_readsWhole_57 rfl (lv_at hl 0 rfl) ?_
    refine zz_geti hx hb hts hi7 hown hK hP (g0.1) rfl 0 (by decide) (hts (.fieldLink RX7 41 "NoonLaw$TextReader" "place" "I") (List.mem_cons_of_mem _ bm_458)) rfl rfl rfl dX7_readsWhole_58 ?_
    refine lv_aload_n hx hb dX7_readsWhole_61 rfl (lv_at hl 0 rfl) ?_
    refine zz_geti hx hb hts hi7 hown hK hP (g0.1) rfl 4 (by decide) (hts (.fieldLink RX7 28 "NoonLaw$TextReader" "size" "I") (List.mem_cons_of_mem _ bm_452)) rfl rfl t1 dX7_readsWhole_62 ?_
    refine lv_icmp_ne (tgt := 72) hx hb dX7_readsWhole_65 (by decide) (fun c11 => ?_) (fun c11 => ?_)
    · have c11 := zz_neT c11
      refine lv_iconst (v := 0) hx hb dX7_readsWhole_72 (by decide) ?_
      have hq9 := f9.2
      rw [hx0] at hq9
      exact zz_zret hx hb hr hlocks hK hP hS dX7_readsWhole_73 (zz_01 (by omega)) (by exact ⟨hC, by omega, zz_q7.whole hq9 hx1 (Or.inr (Or.inr ⟨by omega, by omega, by omega⟩))⟩)
    · have c11 := zz_eqT c11
      skip
      refine lv_iconst (v := 1) hx hb dX7_readsWhole_68 (by decide) ?_
      refine lv_goto (tgt := 73) hx hb dX7_readsWhole_69 (by decide) ?_
      have hq9 := f9.2
      rw [hx0] at hq9
      exact zz_zret hx hb hr hlocks hK hP hS dX7_readsWhole_73 (zz_01 (by omega)) (by exact ⟨hC, by omega, zz_q7.whole hq9 hx1 (Or.inl ⟨by omega, by omega, by omega⟩)⟩)
theorem dS11_9 (x0 : Nat) : (x0 + 1) = x0 ∨ (x0 + 1) = x0 + 1 := by omega
set_option maxHeartbeats 4000000 in
set_option maxRecDepth 100000 in
theorem c_X3_renew (l : Launch) (E : zz_E) (σ : zz_S) (h0 : Nat) (nb : Int32) (cnt : Int32) (g0 : zz_Sh E h0) : Met l yX3_renew wzX3_renew ({ frames := 0, cells := 0, slots := 0, locals := 0 }) (va_Pc [.ref h0, .int nb, .int cnt] (zz_B E σ)) (va_Qv (fun σ1 => zz_ch (fun a k => a = h0 ∨ a = h0 + 1) σ σ1 ∧ (σ1 h0 0 = nb ∧ σ1 h0 1 = cnt ∧ ∀ k : Nat, k < 24 → (σ1 (h0 + 1) k).toInt = 0)) (zz_B E) (zz_A E)) 0 0 (zz_A E) := by
  refine zz_met (cc := cX3_renew) (maxL := 4) (ret := none) (by decide) rfl (Nat.le_of_ble_eq_true rfl) ?_
  intro p e s m args below meth c ls hx hb hr hts hown hlocks hml hK hP hS hl
  have hl : lv_has ls 4 [(0, .ref h0), (1, .int nb), (2, .int cnt)] := hl
  have hown : s.vm.findClass RX3 = some m.cls := hown
  have hi3 : ∀ w ∈ wsX30, w ∈ wzX3_renew := fun w h => List.mem_cons_of_mem _ (hbw3 w h)
  have k_0 : (0 : Int32).toInt = 0 := by decide +kernel
  have k_1 : (1 : Int32).toInt = 1 := by decide +kernel
  have k_24 : (24 : Int32).toInt = 24 := by decide +kernel
  replace t0 : σ h0 0 = σ h0 0 := rfl
  replace t1 : σ h0 1 = σ h0 1 := rfl
  have hC : zz_ch (fun a k => a = h0 ∨ a = h0 + 1) σ σ := zz_ch.rf σ
  refine lv_aload_n hx hb dX3_renew_0 rfl (lv_at hl 0 rfl) ?_
  refine lv_iload_n hx hb dX3_renew_1 rfl (lv_at hl 1 rfl) ?_
  refine zz_puti (v := nb) (ty := .int) hx hb hts hi3 tyX3 tyX3_ok nmX3 hown hK hP hS (g0.1) rfl 0 (by decide) (hts (.fieldLink RX3 15 "NoonLaw$Sheet" "bits" "I") (List.mem_cons_of_mem _ bm_892)) rfl rfl (by decide +kernel) rfl rfl rfl dX3_renew_2 (fun σ1 H locs w1 hP1 hS1 => ?_)
  replace hP := hP1
  replace hS := hS1
  clear hP1 hS1
  replace hC := hC.u w1 (dS11_1 h0)
  replace t0 : σ1 h0 0 = nb := zz_w1 w1
  replace t1 : σ1 h0 1 = σ h0 1 := (zz_w (b := h0) (j := 1) w1 (fun q9 => absurd q9.2 (by decide))).trans t1
  refine lv_aload_n hx hb dX3_renew_5 rfl (lv_at hl 0 rfl) ?_
  refine lv_iload_n hx hb dX3_renew_6 rfl (lv_at hl 2 rfl) ?_
  refine zz_puti (v := cnt) (ty := .int) hx hb hts hi3 tyX3 tyX3_ok nmX3 hown hK hP hS (g0.1) rfl 1 (by decide) (hts (.fieldLink RX3 19 "NoonLaw$Sheet" "length" "I") (List.mem_cons_of_mem _ bm_893)) rfl rfl (by decide +kernel) rfl rfl rfl dX3_renew_7 (fun σ2 H locs w2 hP1 hS1 => ?_)
  replace hP := hP1
  replace hS := hS1
  clear hP1 hS1
  replace hC := hC.u w2 (dS11_1 h0)
  replace t0 : σ2 h0 0 = nb := (zz_w (b := h0) (j := 0) w2 (fun q9 => absurd q9.2 (by decide))).trans t0
  replace t1 : σ2 h0 1 = cnt := zz_w1 w2
  refine lv_iconst (v := 0) hx hb dX3_renew_10 (by decide) ?_
  refine lv_istore_n (lv' := [(3, .int 0), (0, .ref h0), (1, .int nb), (2, .int cnt)]) hx hb dX3_renew_11 rfl hl (by decide) rfl (fun ls hl => ?_)
  have J12 : ∀ (n : Nat) (ii : Int32) (σa : zz_S) (H : Heap) (locs : List Loc) (ls : Array Slot), ((24 - ii.toInt).toNat) < n → (zz_ch (fun a k => a = h0 ∨ a = h0 + 1) σ σa) → (0 ≤ ii.toInt) → (∀ k : Nat, (k : Int) < ii.toInt → (σa (h0 + 1) k).toInt = 0) → (σa h0 0 = nb) → (σa h0 1 = cnt) → zz_P E σa H → va_S (zz_A E) s.heap H locs → lv_has ls 4 [(3, .int ii), (0, .ref h0), (1, .int nb), (2, .int cnt)] → W p l e (headSpec wzX3_renew ({ frames := 0, cells := 0, slots := 0, locals := 0 })).room s m args below meth c H locs 0 0 (MQ below (va_Qv (fun σ1 => zz_ch (fun a k => a = h0 ∨ a = h0 + 1) σ σ1 ∧ (σ1 h0 0 = nb ∧ σ1 h0 1 = cnt ∧ ∀ k : Nat, k < 24 → (σ1 (h0 + 1) k).toInt = 0)) (zz_B E) (zz_A E)) args s 0 0 (zz_A E)) (F0 m 12 ls []) := by
    intro n
    induction n with
    | zero => intro ii σa H locs ls hm; exact absurd hm (Nat.not_lt_zero _)
    | succ n ih12 =>
      intro ii σa H locs ls hm hC f12_0 f12_1 t0 t1 hP hS hl
      refine lv_iload_n hx hb dX3_renew_12 rfl (lv_at hl 0 rfl) ?_
      refine lv_bipush (v := 24) hx hb dX3_renew_13 (by decide) ?_
      refine lv_icmp_ge (tgt := 31) hx hb dX3_renew_15 (by decide) (fun c3 => ?_) (fun c3 => ?_)
      · have c3 := zz_leT c3
        exact zz_vret hx hb hr hlocks hK hP hS dX3_renew_31 (by exact ⟨hC, t0, t1, fun k hk => f12_1 k (by omega)⟩)
      · have c3 := zz_nleT c3
        refine lv_aload_n hx hb dX3_renew_18 rfl (lv_at hl 1 rfl) ?_
        refine zz_getr hx hb hts hi3 hown hK hP (g0.1) rfl 2 (by decide) (hts (.fieldLink RX3 9 "NoonLaw$Sheet" "numbers" "[I") (List.mem_cons_of_mem _ bm_88)) rfl rfl dX3_renew_19 ?_
        refine lv_iload_n hx hb dX3_renew_22 rfl (lv_at hl 0 rfl) ?_
        refine lv_iconst (v := 0) hx hb dX3_renew_23 (by decide) ?_
        refine zz_iast hx hb hK hP hS (g0.2) (by omega) (by omega) dX3_renew_24 (fun j4 σ4 H locs q4 r4 w4 hP1 hS1 => ?_)
        replace hP := hP1
        replace hS := hS1
        clear hP1 hS1
        replace hC := hC.u w4 (dS11_9 h0)
        replace t0 : σ4 h0 0 = nb := (zz_w (b := h0) (j := 0) w4 (fun q9 => zz_na (a := h0) (i := 0) (j := 1) (by decide) q9.1)).trans t0
        replace t1 : σ4 h0 1 = cnt := (zz_w (b := h0) (j := 1) w4 (fun q9 => zz_na (a := h0) (i := 0) (j := 1) (by decide) q9.1)).trans t1
        obtain ⟨n5, e5⟩ : ∃ y : Int32, y = ii + 1 := ⟨_, rfl⟩
        have f5 : n5.toInt = (ii).toInt + (1) := by have h9 := zz_addT e5 (by omega) (by omega); omega
        refine lv_iinc (v := n5) (lv' := [(3, .int n5), (0, .ref h0), (1, .int nb), (2, .int cnt)]) hx hb dX3_renew_25 hl (k := 0) rfl (by rw [e5]; rfl) (by decide) rfl (fun ls hl => ?_)
        refine lv_goto (tgt := 12) hx hb dX3_renew_28 (by decide) ?_
        exact ih12 n5 σ4 _ _ _ (by omega) hC (by omega) (by intro k hk; exact if hq : k = j4 then (by rw [hq, w4, zz_us]; exact k_0) else (by rw [w4, zz_un (by omega)]; exact f12_1 k (by omega))) t0 t1 hP hS (lv_sub hl [0, 1, 2, 3] rfl)
  exact J12 _ 0 σ2 _ _ _ (Nat.lt_succ_self _) hC (by omega) (by intro k hk; omega) t0 t1 hP hS (lv_sub hl [0, 1, 2, 3] rfl)
theorem dS11_10 (x0 : Nat) : (x0 + 1) = x0 + 1 := by omega
set_option maxHeartbeats 4000000 in
set_option maxRecDepth 100000 in
theorem c_X3_write (l : Launch) (E : zz_E) (σ : zz_S) (h0 : Nat) (ix : Int32) (v : Int32) (g0 : zz_Sh E h0) (hi : 0 ≤ ix.toInt ∧ ix.toInt < 24) : Met l yX3_write wzX3_write ({ frames := 0, cells := 0, slots := 0, locals := 0 }) (va_Pc [.ref h0, .int ix, .int v] (zz_B E σ)) (va_Qv (fun σ1 => zz_ch (fun a k => a = h0 + 1) σ σ1 ∧ (σ1 = zz_u σ (h0 + 1) ix.toInt.toNat (zz_nb (σ h0 0).toInt v))) (zz_B E) (zz_A E)) 0 0 (zz_A E) := by
  refine zz_met (cc := cX3_write) (maxL := 3) (ret := none) (by decide) rfl (Nat.le_of_ble_eq_true rfl) ?_
  intro p e s m args below meth c ls hx hb hr hts hown hlocks hml hK hP hS hl
  have hl : lv_has ls 3 [(0, .ref h0), (1, .int ix), (2, .int v)] := hl
  have hown : s.vm.findClass RX3 = some m.cls := hown
  have hi3 : ∀ w ∈ wsX30, w ∈ wzX3_write := fun w h => List.mem_cons_of_mem _ (hbw3 w h)
  have k_8 : (8 : Int32).toInt = 8 := by decide +kernel
  have k_16 : (16 : Int32).toInt = 16 := by decide +kernel
  have hC : zz_ch (fun a k => a = h0 + 1) σ σ := zz_ch.rf σ
  refine lv_aload_n hx hb dX3_write_0 rfl (lv_at hl 0 rfl) ?_
  refine zz_geti hx hb hts hi3 hown hK hP (g0.1) rfl 0 (by decide) (hts (.fieldLink RX3 15 "NoonLaw$Sheet" "bits" "I") (List.mem_cons_of_mem _ bm_892)) rfl rfl rfl dX3_write_1 ?_
  refine lv_bipush (v := 8) hx hb dX3_write_4 (by decide) ?_
  refine lv_icmp_ne (tgt := 20) hx hb dX3_write_6 (by decide) (fun c1 => ?_) (fun c1 => ?_)
  · have c1 := zz_neT c1
    refine lv_aload_n hx hb dX3_write_20 rfl (lv_at hl 0 rfl) ?_
    refine zz_geti hx hb hts hi3 hown hK hP (g0.1) rfl 0 (by decide) (hts (.fieldLink RX3 15 "NoonLaw$Sheet" "bits" "I") (List.mem_cons_of_mem _ bm_892)) rfl rfl rfl dX3_write_21 ?_
    refine lv_bipush (v := 16) hx hb dX3_write_24 (by decide) ?_
    refine lv_icmp_ne (tgt := 40) hx hb dX3_write_26 (by decide) (fun c2 => ?_) (fun c2 => ?_)
    · have c2 := zz_neT c2
      refine lv_aload_n hx hb dX3_write_40 rfl (lv_at hl 0 rfl) ?_
      refine zz_getr hx hb hts hi3 hown hK hP (g0.1) rfl 2 (by decide) (hts (.fieldLink RX3 9 "NoonLaw$Sheet" "numbers" "[I") (List.mem_cons_of_mem _ bm_88)) rfl rfl dX3_write_41 ?_
      refine lv_iload_n hx hb dX3_write_44 rfl (lv_at hl 1 rfl) ?_
      refine lv_iload_n hx hb dX3_write_45 rfl (lv_at hl 2 rfl) ?_
      refine zz_iast hx hb hK hP hS (g0.2) (by omega) (by omega) dX3_write_46 (fun j3 σ3 H locs q3 r3 w3 hP1 hS1 => ?_)
      replace hP := hP1
      replace hS := hS1
      clear hP1 hS1
      replace hC := hC.u w3 (dS11_10 h0)
      exact zz_vret hx hb hr hlocks hK hP hS dX3_write_47 (by exact ⟨hC, by rw [show ix.toInt.toNat = j3 from by omega]; exact w3.trans (congrArg (zz_u σ (h0 + 1) j3) (by unfold zz_nb; rw [if_neg (by omega), if_neg (by omega)]))⟩)
    · have c2 := zz_eqT c2
      refine lv_aload_n hx hb dX3_write_29 rfl (lv_at hl 0 rfl) ?_
      refine zz_getr hx hb hts hi3 hown hK hP (g0.1) rfl 2 (by decide) (hts (.fieldLink RX3 9 "NoonLaw$Sheet" "numbers" "[I") (List.mem_cons_of_mem _ bm_88)) rfl rfl dX3_write_30 ?_
      refine lv_iload_n hx hb dX3_write_33 rfl (lv_at hl 1 rfl) ?_
      refine lv_iload_n hx hb dX3_write_34 rfl (lv_at hl 2 rfl) ?_
      refine lv_i2s hx hb dX3_write_35 rfl ?_
      refine lv_topi (fun n4 e4 => ?_)
      skip
      refine zz_iast hx hb hK hP hS (g0.2) (by omega) (by omega) dX3_write_36 (fun j5 σ5 H locs q5 r5 w5 hP1 hS1 => ?_)
      replace hP := hP1
      replace hS := hS1
      clear hP1 hS1
      replace hC := hC.u w5 (dS11_10 h0)
      refine lv_goto (tgt := 47) hx hb dX3_write_37 (by decide) ?_
      exact zz_vret hx hb hr hlocks hK hP hS dX3_write_47 (by exact ⟨hC, by rw [show ix.toInt.toNat = j5 from by omega]; exact w5.trans (congrArg (zz_u σ (h0 + 1) j5) (by unfold zz_nb; rw [if_neg (by omega), if_pos (by omega), e4]))⟩)
  · have c1 := zz_eqT c1
    refine lv_aload_n hx hb dX3_write_9 rfl (lv_at hl 0 rfl) ?_
    refine zz_getr hx hb hts hi3 hown hK hP (g0.1) rfl 2 (by decide) (hts (.fieldLink RX3 9 "NoonLaw$Sheet" "numbers" "[I") (List.mem_cons_of_mem _ bm_88)) rfl rfl dX3_write_10 ?_
    refine lv_iload_n hx hb dX3_write_13 rfl (lv_at hl 1 rfl) ?_
    refine lv_iload_n hx hb dX3_write_14 rfl (lv_at hl 2 rfl) ?_
    refine lv_i2b hx hb dX3_write_15 rfl ?_
    refine lv_topi (fun n6 e6 => ?_)
    skip
    refine zz_iast hx hb hK hP hS (g0.2) (by omega) (by omega) dX3_write_16 (fun j7 σ7 H locs q7 r7 w7 hP1 hS1 => ?_)
    replace hP := hP1
    replace hS := hS1
    clear hP1 hS1
    replace hC := hC.u w7 (dS11_10 h0)
    refine lv_goto (tgt := 47) hx hb dX3_write_17 (by decide) ?_
    exact zz_vret hx hb hr hlocks hK hP hS dX3_write_47 (by exact ⟨hC, by rw [show ix.toInt.toNat = j7 from by omega]; exact w7.trans (congrArg (zz_u σ (h0 + 1) j7) (by unfold zz_nb; rw [if_pos (by omega), e6]))⟩)
set_option maxHeartbeats 4000000 in
set_option maxRecDepth 100000 in
theorem c_X3_holds (l : Launch) (E : zz_E) (σ : zz_S) (h0 : Nat) (ix : Int32) (nn : Int32) (g0 : zz_Sh E h0) (hs : 0 ≤ (σ h0 1).toInt ∧ (σ h0 1).toInt ≤ 24) : Met l yX3_holds wzX3_holds ({ frames := 0, cells := 0, slots := 0, locals := 0 }) (va_Pc [.ref h0, .int ix, .int nn] (zz_B E σ)) (va_Qi (fun r σ1 => σ1 = σ ∧ ((r.toInt = 1 ∧ 0 ≤ nn.toInt ∧ 0 ≤ ix.toInt ∧ ix.toInt + nn.toInt ≤ (σ h0 1).toInt) ∨ (r.toInt = 0 ∧ (nn.toInt < 0 ∨ ix.toInt < 0 ∨ (σ h0 1).toInt < ix.toInt + nn.toInt)))) (zz_B E) (zz_A E)) 0 0 (zz_A E) := by
  refine zz_met (cc := cX3_holds) (maxL := 3) (ret := (some .boolean)) (by decide) rfl (Nat.le_of_ble_eq_true rfl) ?_
  intro p e s m args below meth c ls hx hb hr hts hown hlocks hml hK hP hS hl
  have hl : lv_has ls 3 [(0, .ref h0), (1, .int ix), (2, .int nn)] := hl
  have hown : s.vm.findClass RX3 = some m.cls := hown
  have hi3 : ∀ w ∈ wsX30, w ∈ wzX3_holds := fun w h => List.mem_cons_of_mem _ (hbw3 w h)
  have k_0 : (0 : Int32).toInt = 0 := by decide +kernel
  have k_1 : (1 : Int32).toInt = 1 := by decide +kernel
  refine lv_iload_n hx hb dX3_holds_0 rfl (lv_at hl 2 rfl) ?_
  refine lv_if_lt (tgt := 30) hx hb dX3_holds_1 (by decide) (fun c1 => ?_) (fun c1 => ?_)
  · have c1 := zz_ltT c1
    refine lv_iconst (v := 0) hx hb dX3_holds_30 (by decide) ?_
    exact zz_zret hx hb hr hlocks hK hP hS dX3_holds_31 (zz_01 (by omega)) (by refine ⟨rfl, ?_⟩; omega)
  · have c1 := zz_nltT c1
    refine lv_iload_n hx hb dX3_holds_4 rfl (lv_at hl 1 rfl) ?_
    refine lv_if_lt (tgt := 30) hx hb dX3_holds_5 (by decide) (fun c2 => ?_) (fun c2 => ?_)
    · have c2 := zz_ltT c2
      refine lv_iconst (v := 0) hx hb dX3_holds_30 (by decide) ?_
      exact zz_zret hx hb hr hlocks hK hP hS dX3_holds_31 (zz_01 (by omega)) (by refine ⟨rfl, ?_⟩; omega)
    · have c2 := zz_nltT c2
      refine lv_iload_n hx hb dX3_holds_8 rfl (lv_at hl 2 rfl) ?_
      refine lv_aload_n hx hb dX3_holds_9 rfl (lv_at hl 0 rfl) ?_
      refine zz_geti hx hb hts hi3 hown hK hP (g0.1) rfl 1 (by decide) (hts (.fieldLink RX3 19 "NoonLaw$Sheet" "length" "I") (List.mem_cons_of_mem _ bm_893)) rfl rfl rfl dX3_holds_10 ?_
      refine lv_icmp_gt (tgt := 30) hx hb dX3_holds_13 (by decide) (fun c3 => ?_) (fun c3 => ?_)
      · have c3 := zz_ltT c3
        refine lv_iconst (v := 0) hx hb dX3_holds_30 (by decide) ?_
        exact zz_zret hx hb hr hlocks hK hP hS dX3_holds_31 (zz_01 (by omega)) (by refine ⟨rfl, ?_⟩; omega)
      · have c3 := zz_nltT c3
        refine lv_iload_n hx hb dX3_holds_16 rfl (lv_at hl 1 rfl) ?_
        refine lv_aload_n hx hb dX3_holds_17 rfl (lv_at hl 0 rfl) ?_
        refine zz_geti hx hb hts hi3 hown hK hP (g0.1) rfl 1 (by decide) (hts (.fieldLink RX3 19 "NoonLaw$Sheet" "length" "I") (List.mem_cons_of_mem _ bm_893)) rfl rfl rfl dX3_holds_18 ?_
        refine lv_iload_n hx hb dX3_holds_21 rfl (lv_at hl 2 rfl) ?_
        refine lv_isub hx hb dX3_holds_22 ?_
        refine lv_topi (fun n4 e4 => ?_)
        have f4 : n4.toInt = (σ h0 1).toInt - (nn).toInt := zz_subT e4 (by omega) (by omega)
        refine lv_icmp_gt (tgt := 30) hx hb dX3_holds_23 (by decide) (fun c5 => ?_) (fun c5 => ?_)
        · have c5 := zz_ltT c5
          refine lv_iconst (v := 0) hx hb dX3_holds_30 (by decide) ?_
          exact zz_zret hx hb hr hlocks hK hP hS dX3_holds_31 (zz_01 (by omega)) (by refine ⟨rfl, ?_⟩; omega)
        · have c5 := zz_nltT c5
          refine lv_iconst (v := 1) hx hb dX3_holds_26 (by decide) ?_
          refine lv_goto (tgt := 31) hx hb dX3_holds_27 (by decide) ?_
          exact zz_zret hx hb hr hlocks hK hP hS dX3_holds_31 (zz_01 (by omega)) (by refine ⟨rfl, ?_⟩; omega)
theorem dS11_11 (x0 : Nat) : ((x0) = x0 ∧ (4) = 4) ∨ (x0 + 6 ≤ (x0) ∧ (x0) < x0 + 15) := by omega
set_option maxHeartbeats 4000000 in
set_option maxRecDepth 100000 in
theorem c_X2_addDream (l : Launch) (E : zz_E) (σ : zz_S) (h0 : Nat) (km : Int32) (mb : Int32) (day : Int32) (g0 : zz_R E h0) (hd : 0 ≤ (σ h0 4).toInt ∧ (σ h0 4).toInt ≤ 9) (hkm : 0 ≤ km.toInt ∧ 0 ≤ mb.toInt) : Met l yX2_addDream wzX2_addDream ({ frames := 0, cells := 0, slots := 0, locals := 0 }) (va_Pc [.ref h0, .int km, .int mb, .int day] (zz_B E σ)) (va_Qi (fun r σ1 => zz_ch (fun a k => (a = h0 ∧ k = 4) ∨ (h0 + 6 ≤ a ∧ a < h0 + 15)) σ σ1 ∧ (((σ h0 4).toInt = 9 ∧ r.toInt = -1 ∧ (σ1 h0 4).toInt = 9 ∧ zz_DX σ1 h0 = zz_DX σ h0) ∨ ((σ h0 4).toInt < 9 ∧ r.toInt = (σ h0 4).toInt ∧ (σ1 h0 4).toInt = (σ h0 4).toInt + 1 ∧ zz_DX σ1 h0 = zz_dn (zz_DX σ h0) (σ h0 4).toInt (km.toInt / 10) (km.toInt % 10) (mb.toInt / 10) (mb.toInt % 10) day.toInt))) (zz_B E) (zz_A E)) 0 0 (zz_A E) := by
  refine zz_met (cc := cX2_addDream) (maxL := 5) (ret := (some .int)) (by decide) rfl (Nat.le_of_ble_eq_true rfl) ?_
  intro p e s m args below meth c ls hx hb hr hts hown hlocks hml hK hP hS hl
  have hl : lv_has ls 5 [(0, .ref h0), (1, .int km), (2, .int mb), (3, .int day)] := hl
  have hown : s.vm.findClass RX2 = some m.cls := hown
  have hi0 : ∀ w ∈ wsX00, w ∈ wzX2_addDream := fun w h => List.mem_cons_of_mem _ (hbw0 w h)
  have hi2 : ∀ w ∈ wsX20, w ∈ wzX2_addDream := fun w h => List.mem_cons_of_mem _ (hbw2 w h)
  have k_m1 : ((-1) : Int32).toInt = -1 := by decide +kernel
  have k_0 : (0 : Int32).toInt = 0 := by decide +kernel
  have k_1 : (1 : Int32).toInt = 1 := by decide +kernel
  have k_9 : (9 : Int32).toInt = 9 := by decide +kernel
  have k_10 : (10 : Int32).toInt = 10 := by decide +kernel
  replace t0 : σ h0 4 = σ h0 4 := rfl
  have hC : zz_ch (fun a k => (a = h0 ∧ k = 4) ∨ (h0 + 6 ≤ a ∧ a < h0 + 15)) σ σ := zz_ch.rf σ
  refine lv_aload_n hx hb dX2_addDream_0 rfl (lv_at hl 0 rfl) ?_
  refine zz_geti hx hb hts hi2 hown hK hP (g0.1) rfl 4 (by decide) (hts (.fieldLink RX2 54 "NoonLaw$Realm" "dreamCount" "I") (List.mem_cons_of_mem _ bm_127)) rfl rfl t0 dX2_addDream_1 ?_
  refine lv_bipush (v := 9) hx hb dX2_addDream_4 (by decide) ?_
  refine lv_icmp_lt (tgt := 11) hx hb dX2_addDream_6 (by decide) (fun c1 => ?_) (fun c1 => ?_)
  · have c1 := zz_ltT c1
    refine lv_aload_n hx hb dX2_addDream_11 rfl (lv_at hl 0 rfl) ?_
    refine zz_getr hx hb hts hi2 hown hK hP (g0.1) rfl 3 (by decide) (hts (.fieldLink RX2 20 "NoonLaw$Realm" "dreams" "[LNoonLaw$Dream;") (List.mem_cons_of_mem _ bm_45)) rfl rfl dX2_addDream_12 ?_
    refine lv_aload_n hx hb dX2_addDream_15 rfl (lv_at hl 0 rfl) ?_
    refine zz_geti hx hb hts hi2 hown hK hP (g0.1) rfl 4 (by decide) (hts (.fieldLink RX2 54 "NoonLaw$Realm" "dreamCount" "I") (List.mem_cons_of_mem _ bm_127)) rfl rfl t0 dX2_addDream_16 ?_
    refine zz_aald hx hb hK hP (g0.2.1) rfl (by omega) (by omega) dX2_addDream_19 (fun j2 q2 r2 => ?_)
    refine lv_astore (lv' := [(4, .ref (h0 + 6 + 1 * j2)), (0, .ref h0), (1, .int km), (2, .int mb), (3, .int day)]) hx hb dX2_addDream_20 hl (by decide) rfl (fun ls hl => ?_)
    refine lv_aload hx hb dX2_addDream_22 (lv_at hl 0 rfl) ?_
    refine lv_iload_n hx hb dX2_addDream_24 rfl (lv_at hl 2 rfl) ?_
    refine lv_bipush (v := 10) hx hb dX2_addDream_25 (by decide) ?_
    refine lv_idiv hx hb dX2_addDream_27 (by decide) ?_
    refine lv_topi (fun n3 e3 => ?_)
    have f3 : n3.toInt = (km).toInt / 10 := zz_divT 10 e3 (by decide) (by omega)
    refine zz_puti (v := n3) (ty := .int) hx hb hts hi0 tyX0 tyX0_ok nmX0 hown hK hP hS ((g0.2.2.2.2.2.2.1 j2 r2)) rfl 0 (by decide) (hts (.fieldLink RX2 88 "NoonLaw$Dream" "kind" "I") (List.mem_cons_of_mem _ bm_128)) rfl rfl (by decide +kernel) rfl rfl rfl dX2_addDream_28 (fun σ4 H locs w4 hP1 hS1 => ?_)
    replace hP := hP1
    replace hS := hS1
    clear hP1 hS1
    replace hC := hC.u w4 (by first | (dsimp only; omega) | omega | (dsimp only; done))
    replace t0 : σ4 h0 4 = σ h0 4 := (zz_w (b := h0) (j := 4) w4 (by omega)).trans t0
    refine lv_aload hx hb dX2_addDream_31 (lv_at hl 0 rfl) ?_
    refine lv_iload_n hx hb dX2_addDream_33 rfl (lv_at hl 2 rfl) ?_
    refine lv_bipush (v := 10) hx hb dX2_addDream_34 (by decide) ?_
    refine lv_irem hx hb dX2_addDream_36 (by decide) ?_
    refine lv_topi (fun n5 e5 => ?_)
    have f5 : n5.toInt = (km).toInt % 10 := zz_remT 10 e5 (by decide) (by omega)
    refine zz_puti (v := n5) (ty := .int) hx hb hts hi0 tyX0 tyX0_ok nmX0 hown hK hP hS ((g0.2.2.2.2.2.2.1 j2 r2)) rfl 1 (by decide) (hts (.fieldLink RX2 91 "NoonLaw$Dream" "m" "I") (List.mem_cons_of_mem _ bm_129)) rfl rfl (by decide +kernel) rfl rfl rfl dX2_addDream_37 (fun σ6 H locs w6 hP1 hS1 => ?_)
    replace hP := hP1
    replace hS := hS1
    clear hP1 hS1
    replace hC := hC.u w6 (by first | (dsimp only; omega) | omega | (dsimp only; done))
    replace t0 : σ6 h0 4 = σ h0 4 := (zz_w (b := h0) (j := 4) w6 (by omega)).trans t0
    refine lv_aload hx hb dX2_addDream_40 (lv_at hl 0 rfl) ?_
    refine lv_iload_n hx hb dX2_addDream_42 rfl (lv_at hl 3 rfl) ?_
    refine lv_bipush (v := 10) hx hb dX2_addDream_43 (by decide) ?_
    refine lv_idiv hx hb dX2_addDream_45 (by decide) ?_
    refine lv_topi (fun n7 e7 => ?_)
    have f7 : n7.toInt = (mb).toInt / 10 := zz_divT 10 e7 (by decide) (by omega)
    refine zz_puti (v := n7) (ty := .int) hx hb hts hi0 tyX0 tyX0_ok nmX0 hown hK hP hS ((g0.2.2.2.2.2.2.1 j2 r2)) rfl 2 (by decide) (hts (.fieldLink RX2 94 "NoonLaw$Dream" "matter" "I") (List.mem_cons_of_mem _ bm_130)) rfl rfl (by decide +kernel) rfl rfl rfl dX2_addDream_46 (fun σ8 H locs w8 hP1 hS1 => ?_)
    replace hP := hP1
    replace hS := hS1
    clear hP1 hS1
    replace hC := hC.u w8 (by first | (dsimp only; omega) | omega | (dsimp only; done))
    replace t0 : σ8 h0 4 = σ h0 4 := (zz_w (b := h0) (j := 4) w8 (by omega)).trans t0
    refine lv_aload hx hb dX2_addDream_49 (lv_at hl 0 rfl) ?_
    refine lv_iload_n hx hb dX2_addDream_51 rfl (lv_at hl 3 rfl) ?_
    refine lv_bipush (v := 10) hx hb dX2_addDream_52 (by decide) ?_
    refine lv_irem hx hb dX2_addDream_54 (by decide) ?_
    refine lv_topi (fun n9 e9 => ?_)
    have f9 : n9.toInt = (mb).toInt % 10 := zz_remT 10 e9 (by decide) (by omega)
    refine zz_puti (v := n9) (ty := .int) hx hb hts hi0 tyX0 tyX0_ok nmX0 hown hK hP hS ((g0.2.2.2.2.2.2.1 j2 r2)) rfl 3 (by decide) (hts (.fieldLink RX2 97 "NoonLaw$Dream" "bids" "I") (List.mem_cons_of_mem _ bm_131)) rfl rfl (by decide +kernel) rfl rfl rfl dX2_addDream_55 (fun σ10 H locs w10 hP1 hS1 => ?_)
    replace hP := hP1
    replace hS := hS1
    clear hP1 hS1
    replace hC := hC.u w10 (by first | (dsimp only; omega) | omega | (dsimp only; done))
    replace t0 : σ10 h0 4 = σ h0 4 := (zz_w (b := h0) (j := 4) w10 (by omega)).trans t0
    refine lv_aload hx hb dX2_addDream_58 (lv_at hl 0 rfl) ?_
    refine lv_iload_n hx hb dX2_addDream_60 rfl (lv_at hl 4 rfl) ?_
    refine zz_puti (v := day) (ty := .int) hx hb hts hi0 tyX0 tyX0_ok nmX0 hown hK hP hS ((g0.2.2.2.2.2.2.1 j2 r2)) rfl 4 (by decide) (hts (.fieldLink RX2 100 "NoonLaw$Dream" "day" "I") (List.mem_cons_of_mem _ bm_132)) rfl rfl (by decide +kernel) rfl rfl rfl dX2_addDream_61 (fun σ11 H locs w11 hP1 hS1 => ?_)
    replace hP := hP1
    replace hS := hS1
    clear hP1 hS1
    replace hC := hC.u w11 (by first | (dsimp only; omega) | omega | (dsimp only; done))
    replace t0 : σ11 h0 4 = σ h0 4 := (zz_w (b := h0) (j := 4) w11 (by omega)).trans t0
    refine lv_aload hx hb dX2_addDream_64 (lv_at hl 0 rfl) ?_
    refine lv_iconst (v := 0) hx hb dX2_addDream_66 (by decide) ?_
    refine zz_puti (v := 0) (ty := .int) hx hb hts hi0 tyX0 tyX0_ok nmX0 hown hK hP hS ((g0.2.2.2.2.2.2.1 j2 r2)) rfl 5 (by decide) (hts (.fieldLink RX2 103 "NoonLaw$Dream" "forgotten" "I") (List.mem_cons_of_mem _ bm_133)) rfl rfl (by decide +kernel) rfl rfl rfl dX2_addDream_67 (fun σ12 H locs w12 hP1 hS1 => ?_)
    replace hP := hP1
    replace hS := hS1
    clear hP1 hS1
    replace hC := hC.u w12 (by first | (dsimp only; omega) | omega | (dsimp only; done))
    replace t0 : σ12 h0 4 = σ h0 4 := (zz_w (b := h0) (j := 4) w12 (by omega)).trans t0
    refine lv_aload_n hx hb dX2_addDream_70 rfl (lv_at hl 1 rfl) ?_
    refine lv_dup hx hb dX2_addDream_71 rfl ?_
    refine zz_geti hx hb hts hi2 hown hK hP (g0.1) rfl 4 (by decide) (hts (.fieldLink RX2 54 "NoonLaw$Realm" "dreamCount" "I") (List.mem_cons_of_mem _ bm_127)) rfl rfl t0 dX2_addDream_72 ?_
    refine lv_iconst (v := 1) hx hb dX2_addDream_75 (by decide) ?_
    refine lv_iadd hx hb dX2_addDream_76 ?_
    refine lv_topi (fun n13 e13 => ?_)
    have f13 : n13.toInt = (σ h0 4).toInt + (1 : Int32).toInt := zz_addT e13 (by omega) (by omega)
    refine zz_puti (v := n13) (ty := .int) hx hb hts hi2 tyX2 tyX2_ok nmX2 hown hK hP hS (g0.1) rfl 4 (by decide) (hts (.fieldLink RX2 54 "NoonLaw$Realm" "dreamCount" "I") (List.mem_cons_of_mem _ bm_127)) rfl rfl (by decide +kernel) rfl rfl rfl dX2_addDream_77 (fun σ14 H locs w14 hP1 hS1 => ?_)
    replace hP := hP1
    replace hS := hS1
    clear hP1 hS1
    replace hC := hC.u w14 (dS11_11 h0)
    replace t0 : σ14 h0 4 = n13 := zz_w1 w14
    refine lv_aload_n hx hb dX2_addDream_80 rfl (lv_at hl 1 rfl) ?_
    refine zz_geti hx hb hts hi2 hown hK hP (g0.1) rfl 4 (by decide) (hts (.fieldLink RX2 54 "NoonLaw$Realm" "dreamCount" "I") (List.mem_cons_of_mem _ bm_127)) rfl rfl t0 dX2_addDream_81 ?_
    refine lv_iconst (v := 1) hx hb dX2_addDream_84 (by decide) ?_
    refine lv_isub hx hb dX2_addDream_85 ?_
    refine lv_topi (fun n15 e15 => ?_)
    have f15 : n15.toInt = (n13).toInt - (1 : Int32).toInt := zz_subT e15 (by omega) (by omega)
    exact zz_iret hx hb hr hlocks hK hP hS dX2_addDream_86 (by exact ⟨hC, Or.inr ⟨by omega, by omega, by rw [t0]; omega, by unfold zz_dn; rw [zz_DXo (r := h0) w14 (by intro j hj; omega), zz_DXw w12 q2 r2 (by decide), zz_DXw w11 q2 r2 (by decide), zz_DXw w10 q2 r2 (by decide), zz_DXw w8 q2 r2 (by decide), zz_DXw w6 q2 r2 (by decide), zz_DXw w4 q2 r2 (by decide), f3, f5, f7, f9, k_0]⟩⟩)
  · have c1 := zz_nltT c1
    refine lv_iconst (v := (-1)) hx hb dX2_addDream_9 (by decide) ?_
    exact zz_iret hx hb hr hlocks hK hP hS dX2_addDream_10 (by exact ⟨hC, Or.inl ⟨by omega, by omega, by omega, rfl⟩⟩)
theorem dS11_12 (x0 : Nat) : ((x0) = x0 ∧ (6) = 6) ∨ (x0 + 15 ≤ (x0) ∧ (x0) < x0 + 21) := by omega
set_option maxHeartbeats 4000000 in
set_option maxRecDepth 100000 in
theorem c_X2_addPerson (l : Launch) (E : zz_E) (σ : zz_S) (h0 : Nat) (wo : Int32) (g0 : zz_R E h0) (hd : 0 ≤ (σ h0 6).toInt ∧ (σ h0 6).toInt ≤ 6) : Met l yX2_addPerson wzX2_addPerson ({ frames := 0, cells := 0, slots := 0, locals := 0 }) (va_Pc [.ref h0, .int wo] (zz_B E σ)) (va_Qi (fun r σ1 => zz_ch (fun a k => (a = h0 ∧ k = 6) ∨ (h0 + 15 ≤ a ∧ a < h0 + 21)) σ σ1 ∧ (((σ h0 6).toInt = 6 ∧ r.toInt = -1 ∧ (σ1 h0 6).toInt = 6 ∧ zz_PX 0 σ1 h0 = zz_PX 0 σ h0 ∧ zz_PX 1 σ1 h0 = zz_PX 1 σ h0) ∨ ((σ h0 6).toInt < 6 ∧ r.toInt = (σ h0 6).toInt ∧ (σ1 h0 6).toInt = (σ h0 6).toInt + 1 ∧ zz_PX 0 σ1 h0 = zz_wn (zz_PX 0 σ h0) (σ h0 6).toInt wo.toInt ∧ zz_PX 1 σ1 h0 = zz_wn (zz_PX 1 σ h0) (σ h0 6).toInt 0))) (zz_B E) (zz_A E)) 0 0 (zz_A E) := by
  refine zz_met (cc := cX2_addPerson) (maxL := 3) (ret := (some .int)) (by decide) rfl (Nat.le_of_ble_eq_true rfl) ?_
  intro p e s m args below meth c ls hx hb hr hts hown hlocks hml hK hP hS hl
  have hl : lv_has ls 3 [(0, .ref h0), (1, .int wo)] := hl
  have hown : s.vm.findClass RX2 = some m.cls := hown
  have hi1 : ∀ w ∈ wsX10, w ∈ wzX2_addPerson := fun w h => List.mem_cons_of_mem _ (hbw1 w h)
  have hi2 : ∀ w ∈ wsX20, w ∈ wzX2_addPerson := fun w h => List.mem_cons_of_mem _ (hbw2 w h)
  have k_m1 : ((-1) : Int32).toInt = -1 := by decide +kernel
  have k_0 : (0 : Int32).toInt = 0 := by decide +kernel
  have k_1 : (1 : Int32).toInt = 1 := by decide +kernel
  have k_6 : (6 : Int32).toInt = 6 := by decide +kernel
  replace t0 : σ h0 6 = σ h0 6 := rfl
  have hC : zz_ch (fun a k => (a = h0 ∧ k = 6) ∨ (h0 + 15 ≤ a ∧ a < h0 + 21)) σ σ := zz_ch.rf σ
  refine lv_aload_n hx hb dX2_addPerson_0 rfl (lv_at hl 0 rfl) ?_
  refine zz_geti hx hb hts hi2 hown hK hP (g0.1) rfl 6 (by decide) (hts (.fieldLink RX2 60 "NoonLaw$Realm" "peopleCount" "I") (List.mem_cons_of_mem _ bm_314)) rfl rfl t0 dX2_addPerson_1 ?_
  refine lv_bipush (v := 6) hx hb dX2_addPerson_4 (by decide) ?_
  refine lv_icmp_lt (tgt := 11) hx hb dX2_addPerson_6 (by decide) (fun c1 => ?_) (fun c1 => ?_)
  · have c1 := zz_ltT c1
    refine lv_aload_n hx hb dX2_addPerson_11 rfl (lv_at hl 0 rfl) ?_
    refine zz_getr hx hb hts hi2 hown hK hP (g0.1) rfl 5 (by decide) (hts (.fieldLink RX2 26 "NoonLaw$Realm" "people" "[LNoonLaw$Person;") (List.mem_cons_of_mem _ bm_47)) rfl rfl dX2_addPerson_12 ?_
    refine lv_aload_n hx hb dX2_addPerson_15 rfl (lv_at hl 0 rfl) ?_
    refine zz_geti hx hb hts hi2 hown hK hP (g0.1) rfl 6 (by decide) (hts (.fieldLink RX2 60 "NoonLaw$Realm" "peopleCount" "I") (List.mem_cons_of_mem _ bm_314)) rfl rfl t0 dX2_addPerson_16 ?_
    refine zz_aald hx hb hK hP (g0.2.2.1) rfl (by omega) (by omega) dX2_addPerson_19 (fun j2 q2 r2 => ?_)
    refine lv_astore_n (lv' := [(2, .ref (h0 + 15 + 1 * j2)), (0, .ref h0), (1, .int wo)]) hx hb dX2_addPerson_20 rfl hl (by decide) rfl (fun ls hl => ?_)
    refine lv_aload_n hx hb dX2_addPerson_21 rfl (lv_at hl 0 rfl) ?_
    refine lv_iload_n hx hb dX2_addPerson_22 rfl (lv_at hl 2 rfl) ?_
    refine zz_puti (v := wo) (ty := .int) hx hb hts hi1 tyX1 tyX1_ok nmX1 hown hK hP hS ((g0.2.2.2.2.2.2.2.1 j2 r2)) rfl 0 (by decide) (hts (.fieldLink RX2 106 "NoonLaw$Person" "wont" "I") (List.mem_cons_of_mem _ bm_315)) rfl rfl (by decide +kernel) rfl rfl rfl dX2_addPerson_23 (fun σ3 H locs w3 hP1 hS1 => ?_)
    replace hP := hP1
    replace hS := hS1
    clear hP1 hS1
    replace hC := hC.u w3 (by first | (dsimp only; omega) | omega | (dsimp only; done))
    replace t0 : σ3 h0 6 = σ h0 6 := (zz_w (b := h0) (j := 6) w3 (by omega)).trans t0
    refine lv_aload_n hx hb dX2_addPerson_26 rfl (lv_at hl 0 rfl) ?_
    refine lv_iconst (v := 0) hx hb dX2_addPerson_27 (by decide) ?_
    refine zz_puti (v := 0) (ty := .int) hx hb hts hi1 tyX1 tyX1_ok nmX1 hown hK hP hS ((g0.2.2.2.2.2.2.2.1 j2 r2)) rfl 1 (by decide) (hts (.fieldLink RX2 109 "NoonLaw$Person" "fined" "I") (List.mem_cons_of_mem _ bm_316)) rfl rfl (by decide +kernel) rfl rfl rfl dX2_addPerson_28 (fun σ4 H locs w4 hP1 hS1 => ?_)
    replace hP := hP1
    replace hS := hS1
    clear hP1 hS1
    replace hC := hC.u w4 (by first | (dsimp only; omega) | omega | (dsimp only; done))
    replace t0 : σ4 h0 6 = σ h0 6 := (zz_w (b := h0) (j := 6) w4 (by omega)).trans t0
    refine lv_aload_n hx hb dX2_addPerson_31 rfl (lv_at hl 1 rfl) ?_
    refine lv_dup hx hb dX2_addPerson_32 rfl ?_
    refine zz_geti hx hb hts hi2 hown hK hP (g0.1) rfl 6 (by decide) (hts (.fieldLink RX2 60 "NoonLaw$Realm" "peopleCount" "I") (List.mem_cons_of_mem _ bm_314)) rfl rfl t0 dX2_addPerson_33 ?_
    refine lv_iconst (v := 1) hx hb dX2_addPerson_36 (by decide) ?_
    refine lv_iadd hx hb dX2_addPerson_37 ?_
    refine lv_topi (fun n5 e5 => ?_)
    have f5 : n5.toInt = (σ h0 6).toInt + (1 : Int32).toInt := zz_addT e5 (by omega) (by omega)
    refine zz_puti (v := n5) (ty := .int) hx hb hts hi2 tyX2 tyX2_ok nmX2 hown hK hP hS (g0.1) rfl 6 (by decide) (hts (.fieldLink RX2 60 "NoonLaw$Realm" "peopleCount" "I") (List.mem_cons_of_mem _ bm_314)) rfl rfl (by decide +kernel) rfl rfl rfl dX2_addPerson_38 (fun σ6 H locs w6 hP1 hS1 => ?_)
    replace hP := hP1
    replace hS := hS1
    clear hP1 hS1
    replace hC := hC.u w6 (dS11_12 h0)
    replace t0 : σ6 h0 6 = n5 := zz_w1 w6
    refine lv_aload_n hx hb dX2_addPerson_41 rfl (lv_at hl 1 rfl) ?_
    refine zz_geti hx hb hts hi2 hown hK hP (g0.1) rfl 6 (by decide) (hts (.fieldLink RX2 60 "NoonLaw$Realm" "peopleCount" "I") (List.mem_cons_of_mem _ bm_314)) rfl rfl t0 dX2_addPerson_42 ?_
    refine lv_iconst (v := 1) hx hb dX2_addPerson_45 (by decide) ?_
    refine lv_isub hx hb dX2_addPerson_46 ?_
    refine lv_topi (fun n7 e7 => ?_)
    have f7 : n7.toInt = (n5).toInt - (1 : Int32).toInt := zz_subT e7 (by omega) (by omega)
    exact zz_iret hx hb hr hlocks hK hP hS dX2_addPerson_47 (by exact ⟨hC, Or.inr ⟨by omega, by omega, by rw [t0]; omega, by rw [zz_PXo (f := 0) (r := h0) w6 (fun j hj q => by omega), zz_PXo (f := 0) (r := h0) w4 (fun _ _ _ => by decide), zz_PXw w3 q2 r2], by rw [zz_PXo (f := 1) (r := h0) w6 (fun j hj q => by omega), zz_PXw w4 q2 r2, zz_PXo (f := 1) (r := h0) w3 (fun _ _ _ => by decide), k_0]⟩⟩)
  · have c1 := zz_nltT c1
    refine lv_iconst (v := (-1)) hx hb dX2_addPerson_9 (by decide) ?_
    exact zz_iret hx hb hr hlocks hK hP hS dX2_addPerson_10 (by exact ⟨hC, Or.inl ⟨by omega, by omega, by omega, rfl, rfl⟩⟩)
theorem dS11_13 (x0 : Nat) : (x0) = x0 ∧ (2) = 2 := by omega
set_option maxHeartbeats 4000000 in
set_option maxRecDepth 100000 in
theorem c_X2_draw (l : Launch) (E : zz_E) (σ : zz_S) (h0 : Nat) (g0 : zz_R E h0) : Met l yX2_draw wzX2_draw ({ frames := 0, cells := 0, slots := 0, locals := 0 }) (va_Pc [.ref h0] (zz_B E σ)) (va_Qi (fun r σ1 => zz_ch (fun a k => a = h0 ∧ k = 2) σ σ1 ∧ (σ1 h0 2 = zz_z (σ h0 2) ∧ r = zz_sh (zz_z (σ h0 2)) ∧ 0 ≤ r.toInt)) (zz_B E) (zz_A E)) 0 0 (zz_A E) := by
  refine zz_met (cc := cX2_draw) (maxL := 1) (ret := (some .int)) (by decide) rfl (Nat.le_of_ble_eq_true rfl) ?_
  intro p e s m args below meth c ls hx hb hr hts hown hlocks hml hK hP hS hl
  have hl : lv_has ls 1 [(0, .ref h0)] := hl
  have hown : s.vm.findClass RX2 = some m.cls := hown
  have hi2 : ∀ w ∈ wsX20, w ∈ wzX2_draw := fun w h => List.mem_cons_of_mem _ (hbw2 w h)
  have k_8 : (8 : Int32).toInt = 8 := by decide +kernel
  have k_12345 : (12345 : Int32).toInt = 12345 := by decide +kernel
  have k_1103515245 : (1103515245 : Int32).toInt = 1103515245 := by decide +kernel
  replace t0 : σ h0 2 = σ h0 2 := rfl
  have hC : zz_ch (fun a k => a = h0 ∧ k = 2) σ σ := zz_ch.rf σ
  refine lv_aload_n hx hb dX2_draw_0 rfl (lv_at hl 0 rfl) ?_
  refine lv_aload_n hx hb dX2_draw_1 rfl (lv_at hl 0 rfl) ?_
  refine zz_geti hx hb hts hi2 hown hK hP (g0.1) rfl 2 (by decide) (hts (.fieldLink RX2 15 "NoonLaw$Realm" "z" "I") (List.mem_cons_of_mem _ bm_43)) rfl rfl t0 dX2_draw_2 ?_
  refine lv_ldc (v := 1103515245) hx hb hown (hts (.constant RX2 159 (1103515245)) (List.mem_cons_of_mem _ bm_609)) dX2_draw_5 ?_
  refine lv_imul hx hb dX2_draw_7 ?_
  refine lv_topi (fun n1 e1 => ?_)
  refine lv_sipush (v := 12345) hx hb dX2_draw_8 (by decide) ?_
  refine lv_iadd hx hb dX2_draw_11 ?_
  refine lv_topi (fun n2 e2 => ?_)
  refine zz_puti (v := n2) (ty := .int) hx hb hts hi2 tyX2 tyX2_ok nmX2 hown hK hP hS (g0.1) rfl 2 (by decide) (hts (.fieldLink RX2 15 "NoonLaw$Realm" "z" "I") (List.mem_cons_of_mem _ bm_43)) rfl rfl (by decide +kernel) rfl rfl rfl dX2_draw_12 (fun σ3 H locs w3 hP1 hS1 => ?_)
  replace hP := hP1
  replace hS := hS1
  clear hP1 hS1
  replace hC := hC.u w3 (dS11_13 h0)
  replace t0 : σ3 h0 2 = n2 := zz_w1 w3
  refine lv_aload_n hx hb dX2_draw_15 rfl (lv_at hl 0 rfl) ?_
  refine zz_geti hx hb hts hi2 hown hK hP (g0.1) rfl 2 (by decide) (hts (.fieldLink RX2 15 "NoonLaw$Realm" "z" "I") (List.mem_cons_of_mem _ bm_43)) rfl rfl t0 dX2_draw_16 ?_
  refine lv_bipush (v := 8) hx hb dX2_draw_19 (by decide) ?_
  refine lv_iushr hx hb dX2_draw_21 rfl ?_
  refine lv_topi (fun n4 e4 => ?_)
  exact zz_iret hx hb hr hlocks hK hP hS dX2_draw_22 (by exact ⟨hC, t0.trans (by rw [e2, e1]; rfl), by rw [e4, e2, e1]; rfl, zz_ush8 rfl e4⟩)
theorem gX2_dreamByDraws_X2_draw : GoodIn wzX2_dreamByDraws (wsV RX2 152 RX2 yX2_draw wzX2_draw) := wz_co bm_605 (wz_co bm_606 (wz_co bm_607 (wz_co bm_15 (wz_in bm_608))))
theorem gX2_dreamByDraws_X2_addDream : GoodIn wzX2_dreamByDraws (wsV RX2 156 RX2 yX2_addDream wzX2_addDream) := wz_co bm_610 (wz_co bm_124 (wz_co bm_125 (wz_co bm_15 (wz_in bm_126))))
theorem dS11_14 (x0 : Nat) : ∀ a k : Nat, (a = (x0) ∧ k = 2) → ((a = x0 ∧ (k = 2 ∨ k = 4)) ∨ (x0 + 6 ≤ a ∧ a < x0 + 15)) := by intro a k h; omega
theorem dS11_15 (x0 : Nat) : ¬ ((x0) = (x0) ∧ (0) = 2) := by omega
theorem dS11_16 (x0 : Nat) : ¬ ((x0) = (x0) ∧ (1) = 2) := by omega
theorem dS11_17 (x0 : Nat) : ¬ ((x0) = (x0) ∧ (4) = 2) := by omega
theorem dS11_18 (x0 : Nat) : ∀ a k : Nat, ((a = (x0) ∧ k = 4) ∨ ((x0) + 6 ≤ a ∧ a < (x0) + 15)) → ((a = x0 ∧ (k = 2 ∨ k = 4)) ∨ (x0 + 6 ≤ a ∧ a < x0 + 15)) := by intro a k h; omega
theorem dS11_19 (x0 : Nat) : ¬ (((x0) = (x0) ∧ (0) = 4) ∨ ((x0) + 6 ≤ (x0) ∧ (x0) < (x0) + 15)) := by omega
theorem dS11_20 (x0 : Nat) : ¬ (((x0) = (x0) ∧ (1) = 4) ∨ ((x0) + 6 ≤ (x0) ∧ (x0) < (x0) + 15)) := by omega
theorem dS11_21 (x0 : Nat) : ¬ (((x0) = (x0) ∧ (2) = 4) ∨ ((x0) + 6 ≤ (x0) ∧ (x0) < (x0) + 15)) := by omega
set_option maxHeartbeats 4000000 in
set_option maxRecDepth 100000 in
theorem c_X2_dreamByDraws (l : Launch) (E : zz_E) (σ : zz_S) (h0 : Nat) (g0 : zz_R E h0) (hd : 0 ≤ (σ h0 4).toInt ∧ (σ h0 4).toInt ≤ 9) (hh : 0 ≤ (σ h0 0).toInt ∧ (σ h0 0).toInt ≤ 9999) (hs : 13 ≤ (σ h0 1).toInt ∧ (σ h0 1).toInt ≤ 24) : Met l yX2_dreamByDraws wzX2_dreamByDraws ({ frames := 1, cells := 0, slots := 0, locals := 24 }) (va_Pc [.ref h0] (zz_B E σ)) (va_Qv (fun σ1 => zz_ch (fun a k => (a = h0 ∧ (k = 2 ∨ k = 4)) ∨ (h0 + 6 ≤ a ∧ a < h0 + 15)) σ σ1 ∧ (((σ h0 0).toInt % 24 = (σ h0 1).toInt % 24 ∧ (σ h0 4).toInt < 9 ∧ (σ h0 0).toInt / 24 < 99 ∧ (σ1 h0 4).toInt = (σ h0 4).toInt + 1 ∧ σ1 h0 2 = zz_z (zz_z (zz_z (σ h0 2))) ∧ zz_DX σ1 h0 = zz_dn (zz_DX σ h0) (σ h0 4).toInt (zz_dv (zz_z (σ h0 2)) % 7) (zz_dv (zz_z (zz_z (zz_z (σ h0 2)))) % 20 / 2) (zz_dv (zz_z (zz_z (σ h0 2))) % 10) (zz_dv (zz_z (zz_z (zz_z (σ h0 2)))) % 20 % 2) ((σ h0 0).toInt / 24 + 1)) ∨ (((σ h0 0).toInt % 24 ≠ (σ h0 1).toInt % 24 ∨ (σ h0 4).toInt = 9 ∨ 99 ≤ (σ h0 0).toInt / 24) ∧ σ1 h0 4 = σ h0 4 ∧ σ1 h0 2 = σ h0 2 ∧ zz_DX σ1 h0 = zz_DX σ h0))) (zz_B E) (zz_A E)) 0 0 (zz_A E) := by
  refine zz_met (cc := cX2_dreamByDraws) (maxL := 5) (ret := none) (by decide) rfl (Nat.le_of_ble_eq_true rfl) ?_
  intro p e s m args below meth c ls hx hb hr hts hown hlocks hml hK hP hS hl
  have hl : lv_has ls 5 [(0, .ref h0)] := hl
  have hown : s.vm.findClass RX2 = some m.cls := hown
  have hi2 : ∀ w ∈ wsX20, w ∈ wzX2_dreamByDraws := fun w h => List.mem_cons_of_mem _ (hbw2 w h)
  have k_1 : (1 : Int32).toInt = 1 := by decide +kernel
  have k_2 : (2 : Int32).toInt = 2 := by decide +kernel
  have k_7 : (7 : Int32).toInt = 7 := by decide +kernel
  have k_9 : (9 : Int32).toInt = 9 := by decide +kernel
  have k_10 : (10 : Int32).toInt = 10 := by decide +kernel
  have k_20 : (20 : Int32).toInt = 20 := by decide +kernel
  have k_24 : (24 : Int32).toInt = 24 := by decide +kernel
  have k_99 : (99 : Int32).toInt = 99 := by decide +kernel
  replace t0 : σ h0 0 = σ h0 0 := rfl
  replace t1 : σ h0 1 = σ h0 1 := rfl
  replace t2 : σ h0 2 = σ h0 2 := rfl
  replace t3 : σ h0 4 = σ h0 4 := rfl
  have hC : zz_ch (fun a k => (a = h0 ∧ (k = 2 ∨ k = 4)) ∨ (h0 + 6 ≤ a ∧ a < h0 + 15)) σ σ := zz_ch.rf σ
  refine lv_aload_n hx hb dX2_dreamByDraws_0 rfl (lv_at hl 0 rfl) ?_
  refine zz_geti hx hb hts hi2 hown hK hP (g0.1) rfl 0 (by decide) (hts (.fieldLink RX2 47 "NoonLaw$Realm" "hour" "I") (List.mem_cons_of_mem _ bm_585)) rfl rfl t0 dX2_dreamByDraws_1 ?_
  refine lv_bipush (v := 24) hx hb dX2_dreamByDraws_4 (by decide) ?_
  refine lv_idiv hx hb dX2_dreamByDraws_6 (by decide) ?_
  refine lv_topi (fun n1 e1 => ?_)
  have f1 : n1.toInt = (σ h0 0).toInt / 24 := zz_divT 24 e1 (by decide) (by omega)
  refine lv_iconst (v := 1) hx hb dX2_dreamByDraws_7 (by decide) ?_
  refine lv_iadd hx hb dX2_dreamByDraws_8 ?_
  refine lv_topi (fun n2 e2 => ?_)
  have f2 : n2.toInt = (n1).toInt + (1 : Int32).toInt := zz_addT e2 (by omega) (by omega)
  refine lv_istore_n (lv' := [(1, .int n2), (0, .ref h0)]) hx hb dX2_dreamByDraws_9 rfl hl (by decide) rfl (fun ls hl => ?_)
  refine lv_aload_n hx hb dX2_dreamByDraws_10 rfl (lv_at hl 1 rfl) ?_
  refine zz_geti hx hb hts hi2 hown hK hP (g0.1) rfl 0 (by decide) (hts (.fieldLink RX2 47 "NoonLaw$Realm" "hour" "I") (List.mem_cons_of_mem _ bm_585)) rfl rfl t0 dX2_dreamByDraws_11 ?_
  refine lv_bipush (v := 24) hx hb dX2_dreamByDraws_14 (by decide) ?_
  refine lv_irem hx hb dX2_dreamByDraws_16 (by decide) ?_
  refine lv_topi (fun n3 e3 => ?_)
  have f3 : n3.toInt = (σ h0 0).toInt % 24 := zz_remT 24 e3 (by decide) (by omega)
  refine lv_aload_n hx hb dX2_dreamByDraws_17 rfl (lv_at hl 1 rfl) ?_
  refine zz_geti hx hb hts hi2 hown hK hP (g0.1) rfl 1 (by decide) (hts (.fieldLink RX2 9 "NoonLaw$Realm" "sleep" "I") (List.mem_cons_of_mem _ bm_42)) rfl rfl t1 dX2_dreamByDraws_18 ?_
  refine lv_bipush (v := 24) hx hb dX2_dreamByDraws_21 (by decide) ?_
  refine lv_irem hx hb dX2_dreamByDraws_23 (by decide) ?_
  refine lv_topi (fun n4 e4 => ?_)
  have f4 : n4.toInt = (σ h0 1).toInt % 24 := zz_remT 24 e4 (by decide) (by omega)
  refine lv_icmp_ne (tgt := 42) hx hb dX2_dreamByDraws_24 (by decide) (fun c5 => ?_) (fun c5 => ?_)
  · have c5 := zz_neT c5
    exact zz_vret hx hb hr hlocks hK hP hS dX2_dreamByDraws_42 (by exact ⟨hC, Or.inr ⟨by omega, rfl, rfl, rfl⟩⟩)
  · have c5 := zz_eqT c5
    refine lv_aload_n hx hb dX2_dreamByDraws_27 rfl (lv_at hl 1 rfl) ?_
    refine zz_geti hx hb hts hi2 hown hK hP (g0.1) rfl 4 (by decide) (hts (.fieldLink RX2 54 "NoonLaw$Realm" "dreamCount" "I") (List.mem_cons_of_mem _ bm_127)) rfl rfl t3 dX2_dreamByDraws_28 ?_
    refine lv_bipush (v := 9) hx hb dX2_dreamByDraws_31 (by decide) ?_
    refine lv_icmp_ge (tgt := 42) hx hb dX2_dreamByDraws_33 (by decide) (fun c6 => ?_) (fun c6 => ?_)
    · have c6 := zz_leT c6
      exact zz_vret hx hb hr hlocks hK hP hS dX2_dreamByDraws_42 (by exact ⟨hC, Or.inr ⟨by omega, rfl, rfl, rfl⟩⟩)
    · have c6 := zz_nleT c6
      refine lv_iload_n hx hb dX2_dreamByDraws_36 rfl (lv_at hl 0 rfl) ?_
      refine lv_bipush (v := 99) hx hb dX2_dreamByDraws_37 (by decide) ?_
      refine lv_icmp_le (tgt := 43) hx hb dX2_dreamByDraws_39 (by decide) (fun c7 => ?_) (fun c7 => ?_)
      · have c7 := zz_leT c7
        have hcd : zz_hid ((σ h0 0).toInt % 24 = (σ h0 1).toInt % 24 ∧ (σ h0 4).toInt < 9 ∧ (σ h0 0).toInt / 24 < 99 ∧ n2.toInt = (σ h0 0).toInt / 24 + 1) := by
          show _ ∧ _ ∧ _ ∧ _
          omega
        have hd9 : 0 ≤ (σ h0 4).toInt ∧ (σ h0 4).toInt ≤ 8 := by omega
        try clear f1
        try clear c1
        try clear g1
        try clear f2
        try clear c2
        try clear g2
        try clear f3
        try clear c3
        try clear g3
        try clear f4
        try clear c4
        try clear g4
        try clear f5
        try clear c5
        try clear g5
        try clear f6
        try clear c6
        try clear g6
        try clear f7
        try clear c7
        try clear g7
        clear hh hs hd
        refine lv_aload_n hx hb dX2_dreamByDraws_43 rfl (lv_at hl 1 rfl) ?_
        refine zz_callVi (As := []) (rest := []) ⟨hx, hb, hml, hown, hts⟩ hK hP hS (c_X2_draw l E σ h0 g0) (cwV 0 hts gX2_dreamByDraws_X2_draw rfl rfl rfl (by decide +kernel) ⟨Nat.le_of_ble_eq_true rfl, Nat.le_of_ble_eq_true rfl⟩) (g0.1) rfl rfl hl.1 rfl (Nat.le_of_ble_eq_true rfl) dX2_dreamByDraws_44 ⟨Nat.zero_le _, Nat.zero_le _⟩ (fun r8 σ8 H locs q8 hP1 hS1 => ?_)
        replace hP := hP1
        replace hS := hS1
        clear hP1 hS1
        try dsimp only at q8
        obtain ⟨w8, f8⟩ := q8
        replace hC := hC.tr (w8.mono (dS11_14 h0))
        replace t0 : σ8 h0 0 = σ h0 0 := (w8 h0 0 (dS11_15 h0)).trans t0
        replace t1 : σ8 h0 1 = σ h0 1 := (w8 h0 1 (dS11_16 h0)).trans t1
        replace t2 : σ8 h0 2 = zz_z (σ h0 2) := f8.1
        replace t3 : σ8 h0 4 = σ h0 4 := (w8 h0 4 (dS11_17 h0)).trans t3
        have g8 : r8.toInt = zz_dv (zz_z (σ h0 2)) := by rw [zz_dv_eq, f8.2.1]
        refine lv_bipush (v := 7) hx hb dX2_dreamByDraws_47 (by decide) ?_
        refine lv_irem hx hb dX2_dreamByDraws_49 (by decide) ?_
        refine lv_topi (fun n9 e9 => ?_)
        have f9 : n9.toInt = (r8).toInt % 7 := zz_remT 7 e9 (by decide) (by omega)
        have hb0 : 0 ≤ n9.toInt ∧ n9.toInt ≤ 6 := by omega
        have hv0 : zz_hid (n9.toInt = zz_dv (zz_z (σ h0 2)) % 7) := by
          show _ = _
          omega
        try clear f1
        try clear c1
        try clear g1
        try clear f2
        try clear c2
        try clear g2
        try clear f3
        try clear c3
        try clear g3
        try clear f4
        try clear c4
        try clear g4
        try clear f5
        try clear c5
        try clear g5
        try clear f6
        try clear c6
        try clear g6
        try clear f7
        try clear c7
        try clear g7
        try clear f8
        try clear c8
        try clear g8
        try clear f9
        try clear c9
        try clear g9
        refine lv_istore_n (lv' := [(2, .int n9), (1, .int n2), (0, .ref h0)]) hx hb dX2_dreamByDraws_50 rfl hl (by decide) rfl (fun ls hl => ?_)
        refine lv_aload_n hx hb dX2_dreamByDraws_51 rfl (lv_at hl 2 rfl) ?_
        refine zz_callVi (As := []) (rest := []) ⟨hx, hb, hml, hown, hts⟩ hK hP hS (c_X2_draw l E σ8 h0 g0) (cwV 0 hts gX2_dreamByDraws_X2_draw rfl rfl rfl (by decide +kernel) ⟨Nat.le_of_ble_eq_true rfl, Nat.le_of_ble_eq_true rfl⟩) (g0.1) rfl rfl hl.1 rfl (Nat.le_of_ble_eq_true rfl) dX2_dreamByDraws_52 ⟨Nat.zero_le _, Nat.zero_le _⟩ (fun r10 σ10 H locs q10 hP1 hS1 => ?_)
        replace hP := hP1
        replace hS := hS1
        clear hP1 hS1
        try dsimp only at q10
        obtain ⟨w10, f10⟩ := q10
        replace hC := hC.tr (w10.mono (dS11_14 h0))
        try simp only [t0, t1, t2, t3] at f10
        replace t0 : σ10 h0 0 = σ h0 0 := (w10 h0 0 (dS11_15 h0)).trans t0
        replace t1 : σ10 h0 1 = σ h0 1 := (w10 h0 1 (dS11_16 h0)).trans t1
        replace t2 : σ10 h0 2 = zz_z (zz_z (σ h0 2)) := f10.1
        replace t3 : σ10 h0 4 = σ h0 4 := (w10 h0 4 (dS11_17 h0)).trans t3
        have g10 : r10.toInt = zz_dv (zz_z (zz_z (σ h0 2))) := by rw [zz_dv_eq, f10.2.1]
        refine lv_bipush (v := 10) hx hb dX2_dreamByDraws_55 (by decide) ?_
        refine lv_irem hx hb dX2_dreamByDraws_57 (by decide) ?_
        refine lv_topi (fun n11 e11 => ?_)
        have f11 : n11.toInt = (r10).toInt % 10 := zz_remT 10 e11 (by decide) (by omega)
        have hb1 : 0 ≤ n11.toInt ∧ n11.toInt ≤ 9 := by omega
        have hv1 : zz_hid (n11.toInt = zz_dv (zz_z (zz_z (σ h0 2))) % 10) := by
          show _ = _
          omega
        try clear f1
        try clear c1
        try clear g1
        try clear f2
        try clear c2
        try clear g2
        try clear f3
        try clear c3
        try clear g3
        try clear f4
        try clear c4
        try clear g4
        try clear f5
        try clear c5
        try clear g5
        try clear f6
        try clear c6
        try clear g6
        try clear f7
        try clear c7
        try clear g7
        try clear f8
        try clear c8
        try clear g8
        try clear f9
        try clear c9
        try clear g9
        try clear f10
        try clear c10
        try clear g10
        try clear f11
        try clear c11
        try clear g11
        refine lv_istore_n (lv' := [(3, .int n11), (2, .int n9), (1, .int n2), (0, .ref h0)]) hx hb dX2_dreamByDraws_58 rfl hl (by decide) rfl (fun ls hl => ?_)
        refine lv_aload_n hx hb dX2_dreamByDraws_59 rfl (lv_at hl 3 rfl) ?_
        refine zz_callVi (As := []) (rest := []) ⟨hx, hb, hml, hown, hts⟩ hK hP hS (c_X2_draw l E σ10 h0 g0) (cwV 0 hts gX2_dreamByDraws_X2_draw rfl rfl rfl (by decide +kernel) ⟨Nat.le_of_ble_eq_true rfl, Nat.le_of_ble_eq_true rfl⟩) (g0.1) rfl rfl hl.1 rfl (Nat.le_of_ble_eq_true rfl) dX2_dreamByDraws_60 ⟨Nat.zero_le _, Nat.zero_le _⟩ (fun r12 σ12 H locs q12 hP1 hS1 => ?_)
        replace hP := hP1
        replace hS := hS1
        clear hP1 hS1
        try dsimp only at q12
        obtain ⟨w12, f12⟩ := q12
        replace hC := hC.tr (w12.mono (dS11_14 h0))
        try simp only [t0, t1, t2, t3] at f12
        replace t0 : σ12 h0 0 = σ h0 0 := (w12 h0 0 (dS11_15 h0)).trans t0
        replace t1 : σ12 h0 1 = σ h0 1 := (w12 h0 1 (dS11_16 h0)).trans t1
        replace t2 : σ12 h0 2 = zz_z (zz_z (zz_z (σ h0 2))) := f12.1
        replace t3 : σ12 h0 4 = σ h0 4 := (w12 h0 4 (dS11_17 h0)).trans t3
        have g12 : r12.toInt = zz_dv (zz_z (zz_z (zz_z (σ h0 2)))) := by rw [zz_dv_eq, f12.2.1]
        refine lv_bipush (v := 20) hx hb dX2_dreamByDraws_63 (by decide) ?_
        refine lv_irem hx hb dX2_dreamByDraws_65 (by decide) ?_
        refine lv_topi (fun n13 e13 => ?_)
        have f13 : n13.toInt = (r12).toInt % 20 := zz_remT 20 e13 (by decide) (by omega)
        have hb2 : 0 ≤ n13.toInt ∧ n13.toInt ≤ 19 := by omega
        have hv2 : zz_hid (n13.toInt = zz_dv (zz_z (zz_z (zz_z (σ h0 2)))) % 20) := by
          show _ = _
          omega
        try clear f1
        try clear c1
        try clear g1
        try clear f2
        try clear c2
        try clear g2
        try clear f3
        try clear c3
        try clear g3
        try clear f4
        try clear c4
        try clear g4
        try clear f5
        try clear c5
        try clear g5
        try clear f6
        try clear c6
        try clear g6
        try clear f7
        try clear c7
        try clear g7
        try clear f8
        try clear c8
        try clear g8
        try clear f9
        try clear c9
        try clear g9
        try clear f10
        try clear c10
        try clear g10
        try clear f11
        try clear c11
        try clear g11
        try clear f12
        try clear c12
        try clear g12
        try clear f13
        try clear c13
        try clear g13
        refine lv_istore (lv' := [(4, .int n13), (3, .int n11), (2, .int n9), (1, .int n2), (0, .ref h0)]) hx hb dX2_dreamByDraws_66 hl (by decide) rfl (fun ls hl => ?_)
        refine lv_aload_n hx hb dX2_dreamByDraws_68 rfl (lv_at hl 4 rfl) ?_
        refine lv_bipush (v := 10) hx hb dX2_dreamByDraws_69 (by decide) ?_
        refine lv_iload_n hx hb dX2_dreamByDraws_71 rfl (lv_at hl 2 rfl) ?_
        refine lv_imul hx hb dX2_dreamByDraws_72 ?_
        refine lv_topi (fun n14 e14 => ?_)
        have f14 : n14.toInt = 10 * (n9).toInt := zz_mulL 10 e14 (by decide) (by omega) (by omega)
        refine lv_iload hx hb dX2_dreamByDraws_73 (lv_at hl 0 rfl) ?_
        refine lv_iconst (v := 2) hx hb dX2_dreamByDraws_75 (by decide) ?_
        refine lv_idiv hx hb dX2_dreamByDraws_76 (by decide) ?_
        refine lv_topi (fun n15 e15 => ?_)
        have f15 : n15.toInt = (n13).toInt / 2 := zz_divT 2 e15 (by decide) (by omega)
        refine lv_iadd hx hb dX2_dreamByDraws_77 ?_
        refine lv_topi (fun n16 e16 => ?_)
        have f16 : n16.toInt = (n14).toInt + (n15).toInt := zz_addT e16 (by omega) (by omega)
        refine lv_bipush (v := 10) hx hb dX2_dreamByDraws_78 (by decide) ?_
        refine lv_iload_n hx hb dX2_dreamByDraws_80 rfl (lv_at hl 1 rfl) ?_
        refine lv_imul hx hb dX2_dreamByDraws_81 ?_
        refine lv_topi (fun n17 e17 => ?_)
        have f17 : n17.toInt = 10 * (n11).toInt := zz_mulL 10 e17 (by decide) (by omega) (by omega)
        refine lv_iload hx hb dX2_dreamByDraws_82 (lv_at hl 0 rfl) ?_
        refine lv_iconst (v := 2) hx hb dX2_dreamByDraws_84 (by decide) ?_
        refine lv_irem hx hb dX2_dreamByDraws_85 (by decide) ?_
        refine lv_topi (fun n18 e18 => ?_)
        have f18 : n18.toInt = (n13).toInt % 2 := zz_remT 2 e18 (by decide) (by omega)
        refine lv_iadd hx hb dX2_dreamByDraws_86 ?_
        refine lv_topi (fun n19 e19 => ?_)
        have f19 : n19.toInt = (n17).toInt + (n18).toInt := zz_addT e19 (by omega) (by omega)
        refine lv_iload_n hx hb dX2_dreamByDraws_87 rfl (lv_at hl 3 rfl) ?_
        skip
        refine zz_callVi (As := [.int n16, .int n19, .int n2]) (rest := []) ⟨hx, hb, hml, hown, hts⟩ hK hP hS (c_X2_addDream l E σ12 h0 n16 n19 n2 g0 (by first | omega | (rw [t3]; omega)) (by first | omega | (rw [t3]; omega))) (cwV 3 hts gX2_dreamByDraws_X2_addDream rfl rfl rfl (by decide +kernel) ⟨Nat.le_of_ble_eq_true rfl, Nat.le_of_ble_eq_true rfl⟩) (g0.1) rfl rfl hl.1 rfl (Nat.le_of_ble_eq_true rfl) dX2_dreamByDraws_88 ⟨Nat.zero_le _, Nat.zero_le _⟩ (fun r20 σ20 H locs q20 hP1 hS1 => ?_)
        replace hP := hP1
        replace hS := hS1
        clear hP1 hS1
        try dsimp only at q20
        obtain ⟨w20, f20⟩ := q20
        replace hC := hC.tr (w20.mono (dS11_18 h0))
        try simp only [t0, t1, t2, t3] at f20
        replace t0 : σ20 h0 0 = σ h0 0 := (w20 h0 0 (dS11_19 h0)).trans t0
        replace t1 : σ20 h0 1 = σ h0 1 := (w20 h0 1 (dS11_20 h0)).trans t1
        replace t2 : σ20 h0 2 = zz_z (zz_z (zz_z (σ h0 2))) := (w20 h0 2 (dS11_21 h0)).trans t2
        replace t3 : σ20 h0 4 = σ20 h0 4 := rfl
        refine lv_pop hx hb dX2_dreamByDraws_91 rfl ?_
        have fz := f20.resolve_left (fun q => by omega)
        have x0 : n9.toInt = zz_dv (zz_z (σ h0 2)) % 7 := hv0
        have x1 : n11.toInt = zz_dv (zz_z (zz_z (σ h0 2))) % 10 := hv1
        have x2 : n13.toInt = zz_dv (zz_z (zz_z (zz_z (σ h0 2)))) % 20 := hv2
        have xa : n16.toInt = 10 * n9.toInt + n13.toInt / 2 := by omega
        have xb : n19.toInt = 10 * n11.toInt + n13.toInt % 2 := by omega
        rw [x0, x2] at xa
        rw [x1, x2] at xb
        obtain ⟨y1, y2, y3, y4⟩ := zz_km xa xb
        obtain ⟨u1, u2, u3, u4⟩ := (show _ ∧ _ ∧ _ ∧ _ from hcd)
        exact zz_vret hx hb hr hlocks hK hP hS dX2_dreamByDraws_92 (by exact ⟨hC, Or.inl ⟨u1, u2, u3, fz.2.2.1, t2, by rw [fz.2.2.2, y1, y2, y3, y4, u4, zz_DXk (r := h0) w12 (by intro j hj k hk; first | (dsimp only; omega) | omega), zz_DXk (r := h0) w10 (by intro j hj k hk; first | (dsimp only; omega) | omega), zz_DXk (r := h0) w8 (by intro j hj k hk; first | (dsimp only; omega) | omega)]⟩⟩)
      · have c7 := zz_nleT c7
        exact zz_vret hx hb hr hlocks hK hP hS dX2_dreamByDraws_42 (by exact ⟨hC, Or.inr ⟨by omega, rfl, rfl, rfl⟩⟩)
theorem gX2_goAnHour_X4_look : GoodIn wzX2_goAnHour (wsV RX2 144 RX4 yX4_look wzX4_look) := wz_co bm_586 (wz_co bm_334 (wz_co bm_335 (wz_co bm_30 (wz_in bm_336))))
theorem gX2_goAnHour_X2_fine : GoodIn wzX2_goAnHour (wsV RX2 148 RX2 yX2_fine wzX2_fine) := wz_co bm_587 (wz_co bm_368 (wz_co bm_369 (wz_co bm_15 (wz_in bm_370))))
theorem dS11_22 (x0 x1 : Nat) : ∀ a k : Nat, (((x0) ≤ a ∧ a < (x0) + 4) ∨ a = (x1) + 23 ∨ a = (x1) + 26) → ((x0 ≤ a ∧ a < x0 + 4) ∨ a = x1 + 23 ∨ a = x1 + 26 ∨ (x1 + 15 ≤ a ∧ a < x1 + 21 ∧ k = 1) ∨ (a = x1 ∧ k = 0)) := by intro a k h; omega
theorem dS11_23 (x0 x1 : Nat) : ∀ a k : Nat, (a = (x1) + 23 ∨ a = (x1) + 26) → ((x0 ≤ a ∧ a < x0 + 4) ∨ a = x1 + 23 ∨ a = x1 + 26 ∨ (x1 + 15 ≤ a ∧ a < x1 + 21 ∧ k = 1) ∨ (a = x1 ∧ k = 0)) := by intro a k h; omega
theorem dS11_24 (x0 : Nat) : ¬ ((x0) = (x0) + 23 ∨ (x0) = (x0) + 26) := by omega
set_option maxHeartbeats 4000000 in
set_option maxRecDepth 100000 in
theorem c_X2_goAnHour (l : Launch) (E : zz_E) (σ : zz_S) (h0 : Nat) (h1 : Nat) (g0 : zz_R E h0) (g_h1 : zz_Si E h1) (hd : 0 ≤ (σ h0 4).toInt ∧ (σ h0 4).toInt ≤ 9) (hp : 0 ≤ (σ h0 6).toInt ∧ (σ h0 6).toInt ≤ 6) (hh : 0 ≤ (σ h0 0).toInt ∧ (σ h0 0).toInt ≤ 9999) (ht : ∀ j : Nat, j < 2 → 0 ≤ (σ (h0 + 21 + 3 * j) 1).toInt ∧ (σ (h0 + 21 + 3 * j) 1).toInt ≤ 60) (hap : h0 + 27 ≤ h1 ∨ h1 + 4 ≤ h0) (K : zy_W) (hW : zy_XW σ h0 K) (hFB : zy_FB (zz_PX 1 σ h0)) : Met l yX2_goAnHour wzX2_goAnHour ({ frames := 5, cells := 0, slots := 0, locals := 121 }) (va_Pc [.ref h0, .ref h1] (zz_B E σ)) (va_Qv (fun σ1 => zz_ch (fun a k => (h1 ≤ a ∧ a < h1 + 4) ∨ a = h0 + 23 ∨ a = h0 + 26 ∨ (h0 + 15 ≤ a ∧ a < h0 + 21 ∧ k = 1) ∨ (a = h0 ∧ k = 0)) σ σ1 ∧ ((σ1 h0 0).toInt = (σ h0 0).toInt + 1 ∧ zz_PX 1 σ1 h0 = zy_ag K (σ h0 0).toInt (σ h0 6).toInt (zz_PX 0 σ h0) (zz_PX 1 σ h0))) (zz_B E) (zz_A E)) 0 0 (zz_A E) := by
  refine zz_met (cc := cX2_goAnHour) (maxL := 4) (ret := none) (by decide) rfl (Nat.le_of_ble_eq_true rfl) ?_
  intro p e s m args below meth c ls hx hb hr hts hown hlocks hml hK hP hS hl
  have hl : lv_has ls 4 [(0, .ref h0), (1, .ref h1)] := hl
  have hown : s.vm.findClass RX2 = some m.cls := hown
  have hi1 : ∀ w ∈ wsX10, w ∈ wzX2_goAnHour := fun w h => List.mem_cons_of_mem _ (hbw1 w h)
  have hi2 : ∀ w ∈ wsX20, w ∈ wzX2_goAnHour := fun w h => List.mem_cons_of_mem _ (hbw2 w h)
  have k_0 : (0 : Int32).toInt = 0 := by decide +kernel
  have k_1 : (1 : Int32).toInt = 1 := by decide +kernel
  have k_9999 : (9999 : Int32).toInt = 9999 := by decide +kernel
  replace t0 : σ h0 0 = σ h0 0 := rfl
  replace t1 : σ h0 6 = σ h0 6 := rfl
  replace t2 : σ h0 4 = σ h0 4 := rfl
  have hC : zz_ch (fun a k => (h1 ≤ a ∧ a < h1 + 4) ∨ a = h0 + 23 ∨ a = h0 + 26 ∨ (h0 + 15 ≤ a ∧ a < h0 + 21 ∧ k = 1) ∨ (a = h0 ∧ k = 0)) σ σ := zz_ch.rf σ
  refine lv_aload_n hx hb dX2_goAnHour_0 rfl (lv_at hl 1 rfl) ?_
  refine lv_aload_n hx hb dX2_goAnHour_1 rfl (lv_at hl 0 rfl) ?_
  refine lv_aload_n hx hb dX2_goAnHour_2 rfl (lv_at hl 0 rfl) ?_
  refine zz_geti hx hb hts hi2 hown hK hP (g0.1) rfl 0 (by decide) (hts (.fieldLink RX2 47 "NoonLaw$Realm" "hour" "I") (List.mem_cons_of_mem _ bm_585)) rfl rfl t0 dX2_goAnHour_3 ?_
  refine zz_callVv (As := [.ref h0, .int (σ h0 0)]) (rest := []) ⟨hx, hb, hml, hown, hts⟩ hK hP hS (c_X4_look l E σ h1 h0 (σ h0 0) g_h1 g0 (by first | omega | exact ht) (by first | omega | exact ht) (by first | omega | exact ht) (by first | omega | exact ht) K (by exact hW)) (cwV 2 hts gX2_goAnHour_X4_look rfl rfl rfl (by decide +kernel) ⟨Nat.le_of_ble_eq_true rfl, Nat.le_of_ble_eq_true rfl⟩) (g_h1.1) rfl rfl hl.1 rfl (Nat.le_of_ble_eq_true rfl) dX2_goAnHour_6 ⟨Nat.zero_le _, Nat.zero_le _⟩ (fun σ1 H locs q1 hP1 hS1 => ?_)
  replace hP := hP1
  replace hS := hS1
  clear hP1 hS1
  try dsimp only at q1
  obtain ⟨w1, f1⟩ := q1
  replace hC := hC.tr (w1.mono (dS11_22 h1 h0))
  replace t0 : σ1 h0 0 = σ h0 0 := (w1 _ _ (by first | (dsimp only; omega) | omega)).trans t0
  replace t1 : σ1 h0 6 = σ h0 6 := (w1 _ _ (by first | (dsimp only; omega) | omega)).trans t1
  replace t2 : σ1 h0 4 = σ h0 4 := (w1 _ _ (by first | (dsimp only; omega) | omega)).trans t2
  refine lv_iconst (v := 0) hx hb dX2_goAnHour_9 (by decide) ?_
  refine lv_istore_n (lv' := [(2, .int 0), (0, .ref h0), (1, .ref h1)]) hx hb dX2_goAnHour_10 rfl hl (by decide) rfl (fun ls hl => ?_)
  have J11 : ∀ (n : Nat) (ii : Int32) (σa : zz_S) (H : Heap) (locs : List Loc) (ls : Array Slot), ((6 - ii.toInt).toNat) < n → (zz_ch (fun a k => (h1 ≤ a ∧ a < h1 + 4) ∨ a = h0 + 23 ∨ a = h0 + 26 ∨ (h0 + 15 ≤ a ∧ a < h0 + 21 ∧ k = 1) ∨ (a = h0 ∧ k = 0)) σ σa) → (0 ≤ ii.toInt ∧ ii.toInt ≤ (σ h0 6).toInt) → (zy_SG σa h1 K (σ h0 0).toInt) → (zz_PX 1 σa h0 = zy_ag K (σ h0 0).toInt ii.toInt (zz_PX 0 σ h0) (zz_PX 1 σ h0)) → (σa h0 0 = σ h0 0) → (σa h0 6 = σ h0 6) → (σa h0 4 = σ h0 4) → zz_P E σa H → va_S (zz_A E) s.heap H locs → lv_has ls 4 [(2, .int ii), (0, .ref h0), (1, .ref h1)] → W p l e (headSpec wzX2_goAnHour ({ frames := 5, cells := 0, slots := 0, locals := 121 })).room s m args below meth c H locs 0 0 (MQ below (va_Qv (fun σ1 => zz_ch (fun a k => (h1 ≤ a ∧ a < h1 + 4) ∨ a = h0 + 23 ∨ a = h0 + 26 ∨ (h0 + 15 ≤ a ∧ a < h0 + 21 ∧ k = 1) ∨ (a = h0 ∧ k = 0)) σ σ1 ∧ ((σ1 h0 0).toInt = (σ h0 0).toInt + 1 ∧ zz_PX 1 σ1 h0 = zy_ag K (σ h0 0).toInt (σ h0 6).toInt (zz_PX 0 σ h0) (zz_PX 1 σ h0))) (zz_B E) (zz_A E)) args s 0 0 (zz_A E)) (F0 m 11 ls []) := by
    intro n
    induction n with
    | zero => intro ii σa H locs ls hm; exact absurd hm (Nat.not_lt_zero _)
    | succ n ih11 =>
      intro ii σa H locs ls hm hC f11_0 f11_1 f11_2 t0 t1 t2 hP hS hl
      refine lv_iload_n hx hb dX2_goAnHour_11 rfl (lv_at hl 0 rfl) ?_
      refine lv_aload_n hx hb dX2_goAnHour_12 rfl (lv_at hl 1 rfl) ?_
      refine zz_geti hx hb hts hi2 hown hK hP (g0.1) rfl 6 (by decide) (hts (.fieldLink RX2 60 "NoonLaw$Realm" "peopleCount" "I") (List.mem_cons_of_mem _ bm_314)) rfl rfl t1 dX2_goAnHour_13 ?_
      refine lv_icmp_ge (tgt := 54) hx hb dX2_goAnHour_16 (by decide) (fun c2 => ?_) (fun c2 => ?_)
      · have c2 := zz_leT c2
        refine lv_aload_n hx hb dX2_goAnHour_54 rfl (lv_at hl 1 rfl) ?_
        refine lv_dup hx hb dX2_goAnHour_55 rfl ?_
        refine zz_geti hx hb hts hi2 hown hK hP (g0.1) rfl 0 (by decide) (hts (.fieldLink RX2 47 "NoonLaw$Realm" "hour" "I") (List.mem_cons_of_mem _ bm_585)) rfl rfl t0 dX2_goAnHour_56 ?_
        refine lv_iconst (v := 1) hx hb dX2_goAnHour_59 (by decide) ?_
        refine lv_iadd hx hb dX2_goAnHour_60 ?_
        refine lv_topi (fun n3 e3 => ?_)
        have f3 : n3.toInt = (σ h0 0).toInt + (1 : Int32).toInt := zz_addT e3 (by omega) (by omega)
        refine zz_puti (v := n3) (ty := .int) hx hb hts hi2 tyX2 tyX2_ok nmX2 hown hK hP hS (g0.1) rfl 0 (by decide) (hts (.fieldLink RX2 47 "NoonLaw$Realm" "hour" "I") (List.mem_cons_of_mem _ bm_585)) rfl rfl (by decide +kernel) rfl rfl rfl dX2_goAnHour_61 (fun σ4 H locs w4 hP1 hS1 => ?_)
        replace hP := hP1
        replace hS := hS1
        clear hP1 hS1
        replace hC := hC.u w4 (by first | (dsimp only; omega) | omega | (dsimp only; done))
        replace t0 : σ4 h0 0 = n3 := zz_w1 w4
        replace t1 : σ4 h0 6 = σ h0 6 := (zz_w (b := h0) (j := 6) w4 (fun q9 => absurd q9.2 (by decide))).trans t1
        replace t2 : σ4 h0 4 = σ h0 4 := (zz_w (b := h0) (j := 4) w4 (fun q9 => absurd q9.2 (by decide))).trans t2
        exact zz_vret hx hb hr hlocks hK hP hS dX2_goAnHour_64 (by refine ⟨hC, by rw [t0]; omega, ?_⟩; rw [zz_PXo (f := 1) (r := h0) w4 (fun j hj q => by omega), f11_2, show ii.toInt = (σ h0 6).toInt from by omega])
      · have c2 := zz_nleT c2
        refine lv_aload_n hx hb dX2_goAnHour_19 rfl (lv_at hl 1 rfl) ?_
        refine zz_getr hx hb hts hi2 hown hK hP (g0.1) rfl 5 (by decide) (hts (.fieldLink RX2 26 "NoonLaw$Realm" "people" "[LNoonLaw$Person;") (List.mem_cons_of_mem _ bm_47)) rfl rfl dX2_goAnHour_20 ?_
        refine lv_iload_n hx hb dX2_goAnHour_23 rfl (lv_at hl 0 rfl) ?_
        refine zz_aald hx hb hK hP (g0.2.2.1) rfl (by omega) (by omega) dX2_goAnHour_24 (fun j5 q5 r5 => ?_)
        refine lv_astore_n (lv' := [(3, .ref (h0 + 15 + 1 * j5)), (2, .int ii), (0, .ref h0), (1, .ref h1)]) hx hb dX2_goAnHour_25 rfl hl (by decide) rfl (fun ls hl => ?_)
        have hpj : j5 = ii.toInt.toNat := by omega
        have hwo : (σa (h0 + 15 + 1 * j5) 0).toInt = zz_PX 0 σ h0 ii.toInt.toNat := by rw [← hpj, ← zz_PX.at r5, zz_PXk (f := 0) (r := h0) hC (by intro j hj; first | (dsimp only; omega) | omega)]
        have hfi : (σa (h0 + 15 + 1 * j5) 1).toInt = zz_PX 1 σ h0 ii.toInt.toNat := by rw [← zz_PX.at r5, f11_2, hpj]; exact zy_ag_at (by omega)
        have hfb := hFB ii.toInt.toNat
        refine lv_aload_n hx hb dX2_goAnHour_26 rfl (lv_at hl 0 rfl) ?_
        refine lv_sipush (v := 9999) hx hb dX2_goAnHour_27 (by decide) ?_
        refine lv_aload_n hx hb dX2_goAnHour_30 rfl (lv_at hl 0 rfl) ?_
        refine zz_geti hx hb hts hi1 hown hK hP ((g0.2.2.2.2.2.2.2.1 j5 r5)) rfl 1 (by decide) (hts (.fieldLink RX2 109 "NoonLaw$Person" "fined" "I") (List.mem_cons_of_mem _ bm_316)) rfl rfl rfl dX2_goAnHour_31 ?_
        refine lv_aload_n hx hb dX2_goAnHour_34 rfl (lv_at hl 2 rfl) ?_
        refine lv_aload_n hx hb dX2_goAnHour_35 rfl (lv_at hl 0 rfl) ?_
        refine lv_iload_n hx hb dX2_goAnHour_36 rfl (lv_at hl 1 rfl) ?_
        refine lv_aload_n hx hb dX2_goAnHour_37 rfl (lv_at hl 3 rfl) ?_
        refine zz_callVi (As := [.ref (h0 + 15 + 1 * j5), .int ii, .ref h1]) (rest := [.int (σa (h0 + 15 + 1 * j5) 1), .int 9999, .ref (h0 + 15 + 1 * j5)]) ⟨hx, hb, hml, hown, hts⟩ hK hP hS (c_X2_fine l E σa h0 (h0 + 15 + 1 * j5) ii h1 g0 (g0.2.2.2.2.2.2.2.1 j5 r5) g_h1 (by intro j hj; rw [(hC _ _ (by first | (dsimp only; omega) | omega))]; exact ht j hj) K (σ h0 0).toInt (by exact f11_1) (by exact hW.keep (fun a k q => hC a k (by first | (dsimp only; omega) | omega)))) (cwV 3 hts gX2_goAnHour_X2_fine rfl rfl rfl (by decide +kernel) ⟨Nat.le_of_ble_eq_true rfl, Nat.le_of_ble_eq_true rfl⟩) (g0.1) rfl rfl hl.1 rfl (Nat.le_of_ble_eq_true rfl) dX2_goAnHour_38 ⟨Nat.zero_le _, Nat.zero_le _⟩ (fun r6 σ6 H locs q6 hP1 hS1 => ?_)
        replace hP := hP1
        replace hS := hS1
        clear hP1 hS1
        try dsimp only at q6
        obtain ⟨w6, f6⟩ := q6
        replace hC := hC.tr (w6.mono (dS11_23 h1 h0))
        try simp only [t0, t1, t2] at f6
        replace t0 : σ6 h0 0 = σ h0 0 := (w6 h0 0 (dS11_24 h0)).trans t0
        replace t1 : σ6 h0 6 = σ h0 6 := (w6 h0 6 (dS11_24 h0)).trans t1
        replace t2 : σ6 h0 4 = σ h0 4 := (w6 h0 4 (dS11_24 h0)).trans t2
        have hfn : r6.toInt = zy_fn K (σ h0 0).toInt (Int32.ofInt (zz_PX 0 σ h0 ii.toInt.toNat)) (Int32.ofInt ii.toInt) := by rw [f6, Int32.ofInt_toInt, ← hwo, Int32.ofInt_toInt]
        have hfr := zy_fn_rng K (σ h0 0).toInt (Int32.ofInt (zz_PX 0 σ h0 ii.toInt.toNat)) (Int32.ofInt ii.toInt)
        refine lv_iadd hx hb dX2_goAnHour_41 ?_
        refine lv_topi (fun n7 e7 => ?_)
        have f7 : n7.toInt = (σa (h0 + 15 + 1 * j5) 1).toInt + (r6).toInt := zz_addT e7 (by omega) (by omega)
        refine va_mmin hx hb (hml.trans hl.1.symm) hown (hts (.methodLink RX2 119 Lib.Math.min.name) (List.mem_cons_of_mem _ bm_225)) (hts (.static Lib.Math.min.name) (List.mem_cons_of_mem _ bm_226)) (hts (.initialized "java/lang/Math") (List.mem_cons_of_mem _ bm_227)) (hts (.code Lib.Math.min.name Lib.Math.min.code 2 (some .int)) (List.mem_cons_of_mem _ bm_228)) (Nat.le_of_ble_eq_true rfl) (Nat.le_of_ble_eq_true rfl) (Nat.zero_le _) (Nat.zero_le _) dX2_goAnHour_42 ?_
        refine lv_topi (fun n8 e8 => ?_)
        have f8 := zz_minT e8
        refine zz_puti (v := n8) (ty := .int) hx hb hts hi1 tyX1 tyX1_ok nmX1 hown hK hP hS ((g0.2.2.2.2.2.2.2.1 j5 r5)) rfl 1 (by decide) (hts (.fieldLink RX2 109 "NoonLaw$Person" "fined" "I") (List.mem_cons_of_mem _ bm_316)) rfl rfl (by decide +kernel) rfl rfl rfl dX2_goAnHour_45 (fun σ9 H locs w9 hP1 hS1 => ?_)
        replace hP := hP1
        replace hS := hS1
        clear hP1 hS1
        replace hC := hC.u w9 (by first | (dsimp only; omega) | omega | (dsimp only; done))
        replace t0 : σ9 h0 0 = σ h0 0 := (zz_w (b := h0) (j := 0) w9 (by omega)).trans t0
        replace t1 : σ9 h0 6 = σ h0 6 := (zz_w (b := h0) (j := 6) w9 (by omega)).trans t1
        replace t2 : σ9 h0 4 = σ h0 4 := (zz_w (b := h0) (j := 4) w9 (by omega)).trans t2
        obtain ⟨n10, e10⟩ : ∃ y : Int32, y = ii + 1 := ⟨_, rfl⟩
        have f10 : n10.toInt = (ii).toInt + (1) := by have h9 := zz_addT e10 (by omega) (by omega); omega
        refine lv_iinc (v := n10) (lv' := [(2, .int n10), (3, .ref (h0 + 15 + 1 * j5)), (0, .ref h0), (1, .ref h1)]) hx hb dX2_goAnHour_48 hl (k := 1) rfl (by rw [e10]; rfl) (by decide) rfl (fun ls hl => ?_)
        refine lv_goto (tgt := 11) hx hb dX2_goAnHour_51 (by decide) ?_
        exact ih11 n10 σ9 _ _ _ (by omega) hC (by first | omega | exact ht) (by exact (f11_1.keep (fun k => w6 _ _ (by first | (dsimp only; omega) | omega)) (fun k => w6 _ _ (by first | (dsimp only; omega) | omega))).keep (fun k => by rw [w9, zz_un (by omega)]) (fun k => by rw [w9, zz_un (by omega)])) (by rw [zz_PXw w9 (by omega : (j5 : Int) = ii.toInt) r5, zz_PXk (f := 1) (r := h0) w6 (by intro j hj; first | (dsimp only; omega) | omega), f11_2]; exact zy_ag_s (by omega) rfl (by omega) (zy_m9_min (by omega) (by omega) (by omega))) t0 t1 t2 hP hS (lv_sub hl [0, 2, 3] rfl)
  exact J11 _ 0 σ1 _ _ _ (Nat.lt_succ_self _) hC (by first | omega | exact ht) (by exact f1) (by rw [zz_PXk (f := 1) (r := h0) w1 (by intro j hj; first | (dsimp only; omega) | omega)]; exact zy_ag_0 (by omega)) t0 t1 t2 hP hS (lv_sub hl [0, 1, 2] rfl)
theorem gX2_takeAll_X0_take : GoodIn wzX2_takeAll (wsV RX2 50 RX0 yX0_take wzX0_take) := wz_co bm_957 (wz_co bm_958 (wz_co bm_959 (wz_co bm_54 (wz_in bm_960))))
theorem gX2_takeAll_X1_take : GoodIn wzX2_takeAll (wsV RX2 57 RX1 yX1_take wzX1_take) := wz_co bm_963 (wz_co bm_964 (wz_co bm_965 (wz_co bm_56 (wz_in bm_966))))
theorem gX2_takeAll_X6_take : GoodIn wzX2_takeAll (wsV RX2 69 RX6 yX6_take wzX6_take) := wz_co bm_969 (wz_co bm_499 (wz_co bm_500 (wz_co bm_58 (wz_in bm_501))))
theorem dS11_25 (x0 : Nat) : x0 ≤ (x0) ∧ (x0) < x0 + 27 := by omega
set_option maxHeartbeats 4000000 in
set_option maxRecDepth 100000 in
theorem c_X2_takeAll (l : Launch) (E : zz_E) (σ : zz_S) (h0 : Nat) (h1 : Nat) (g0 : zz_R E h0) (g_h1 : zz_R E h1) (hap : h1 + 27 ≤ h0 ∨ h0 + 27 ≤ h1) (hln : ∀ j : Nat, j < 2 → 0 ≤ (σ (h1 + 21 + 3 * j) 1).toInt ∧ (σ (h1 + 21 + 3 * j) 1).toInt ≤ 60) (hfit : ∀ j : Nat, j < 60 → fits .byte (.int (σ (h1 + 4) j)) = true) (hz : ∀ j : Nat, j < 2 → (σ (h1 + 21 + 3 * j) 0).toInt = 0 ∨ (σ (h1 + 21 + 3 * j) 0).toInt = 1) : Met l yX2_takeAll wzX2_takeAll ({ frames := 2, cells := 0, slots := 0, locals := 63 }) (va_Pc [.ref h0, .ref h1] (zz_B E σ)) (va_Qv (fun σ1 => zz_ch (fun a k => h0 ≤ a ∧ a < h0 + 27) σ σ1 ∧ (σ1 h0 0 = σ h1 0 ∧ σ1 h0 1 = σ h1 1 ∧ σ1 h0 2 = σ h1 2 ∧ σ1 h0 4 = σ h1 4 ∧ σ1 h0 6 = σ h1 6 ∧ σ1 h0 9 = σ h1 9 ∧ σ1 h0 11 = σ h1 11 ∧ (∀ j : Nat, j < 2 → 0 ≤ (σ1 (h0 + 21 + 3 * j) 1).toInt ∧ (σ1 (h0 + 21 + 3 * j) 1).toInt ≤ 60) ∧ (∀ j : Nat, j < 60 → fits .byte (.int (σ1 (h0 + 4) j)) = true) ∧ (∀ j : Nat, j < 2 → (σ1 (h0 + 21 + 3 * j) 0).toInt = 0 ∨ (σ1 (h0 + 21 + 3 * j) 0).toInt = 1) ∧ zz_DX σ1 h0 = zz_DX σ h1 ∧ zz_PX 0 σ1 h0 = zz_PX 0 σ h1 ∧ zz_PX 1 σ1 h0 = zz_PX 1 σ h1 ∧ zz_XT σ1 h0 = zz_XT σ h1 ∧ (∀ j : Nat, j < 60 → σ1 (h0 + 4) j = σ (h1 + 4) j) ∧ ∀ j : Nat, j < 24 → σ1 (h0 + 5) j = σ (h1 + 5) j)) (zz_B E) (zz_A E)) 0 0 (zz_A E) := by
  refine zz_met (cc := cX2_takeAll) (maxL := 3) (ret := none) (by decide) rfl (Nat.le_of_ble_eq_true rfl) ?_
  intro p e s m args below meth c ls hx hb hr hts hown hlocks hml hK hP hS hl
  have hl : lv_has ls 3 [(0, .ref h0), (1, .ref h1)] := hl
  have hown : s.vm.findClass RX2 = some m.cls := hown
  have hi2 : ∀ w ∈ wsX20, w ∈ wzX2_takeAll := fun w h => List.mem_cons_of_mem _ (hbw2 w h)
  have hi6 : ∀ w ∈ wsX60, w ∈ wzX2_takeAll := fun w h => List.mem_cons_of_mem _ (hbw6 w h)
  have k_0 : (0 : Int32).toInt = 0 := by decide +kernel
  have k_1 : (1 : Int32).toInt = 1 := by decide +kernel
  have k_2 : (2 : Int32).toInt = 2 := by decide +kernel
  have k_6 : (6 : Int32).toInt = 6 := by decide +kernel
  have k_9 : (9 : Int32).toInt = 9 := by decide +kernel
  have k_24 : (24 : Int32).toInt = 24 := by decide +kernel
  have k_60 : (60 : Int32).toInt = 60 := by decide +kernel
  replace t0 : σ h0 0 = σ h0 0 := rfl
  replace t1 : σ h0 1 = σ h0 1 := rfl
  replace t2 : σ h0 2 = σ h0 2 := rfl
  replace t3 : σ h0 4 = σ h0 4 := rfl
  replace t4 : σ h0 6 = σ h0 6 := rfl
  replace t5 : σ h0 9 = σ h0 9 := rfl
  replace t6 : σ h0 11 = σ h0 11 := rfl
  replace t7 : σ h1 0 = σ h1 0 := rfl
  replace t8 : σ h1 1 = σ h1 1 := rfl
  replace t9 : σ h1 2 = σ h1 2 := rfl
  replace t10 : σ h1 4 = σ h1 4 := rfl
  replace t11 : σ h1 6 = σ h1 6 := rfl
  replace t12 : σ h1 9 = σ h1 9 := rfl
  replace t13 : σ h1 11 = σ h1 11 := rfl
  have hC : zz_ch (fun a k => h0 ≤ a ∧ a < h0 + 27) σ σ := zz_ch.rf σ
  refine lv_aload_n hx hb dX2_takeAll_0 rfl (lv_at hl 0 rfl) ?_
  refine lv_aload_n hx hb dX2_takeAll_1 rfl (lv_at hl 1 rfl) ?_
  refine zz_geti hx hb hts hi2 hown hK hP (g_h1.1) rfl 0 (by decide) (hts (.fieldLink RX2 47 "NoonLaw$Realm" "hour" "I") (List.mem_cons_of_mem _ bm_585)) rfl rfl t7 dX2_takeAll_2 ?_
  refine zz_puti (v := σ h1 0) (ty := .int) hx hb hts hi2 tyX2 tyX2_ok nmX2 hown hK hP hS (g0.1) rfl 0 (by decide) (hts (.fieldLink RX2 47 "NoonLaw$Realm" "hour" "I") (List.mem_cons_of_mem _ bm_585)) rfl rfl (by decide +kernel) rfl rfl rfl dX2_takeAll_5 (fun σ1 H locs w1 hP1 hS1 => ?_)
  replace hP := hP1
  replace hS := hS1
  clear hP1 hS1
  replace hC := hC.u w1 (dS11_25 h0)
  replace t0 : σ1 h0 0 = σ h1 0 := zz_w1 w1
  replace t1 : σ1 h0 1 = σ h0 1 := (zz_w (b := h0) (j := 1) w1 (fun q9 => absurd q9.2 (by decide))).trans t1
  replace t2 : σ1 h0 2 = σ h0 2 := (zz_w (b := h0) (j := 2) w1 (fun q9 => absurd q9.2 (by decide))).trans t2
  replace t3 : σ1 h0 4 = σ h0 4 := (zz_w (b := h0) (j := 4) w1 (fun q9 => absurd q9.2 (by decide))).trans t3
  replace t4 : σ1 h0 6 = σ h0 6 := (zz_w (b := h0) (j := 6) w1 (fun q9 => absurd q9.2 (by decide))).trans t4
  replace t5 : σ1 h0 9 = σ h0 9 := (zz_w (b := h0) (j := 9) w1 (fun q9 => absurd q9.2 (by decide))).trans t5
  replace t6 : σ1 h0 11 = σ h0 11 := (zz_w (b := h0) (j := 11) w1 (fun q9 => absurd q9.2 (by decide))).trans t6
  replace t7 : σ1 h1 0 = σ h1 0 := (zz_w (b := h1) (j := 0) w1 (by omega)).trans t7
  replace t8 : σ1 h1 1 = σ h1 1 := (zz_w (b := h1) (j := 1) w1 (by omega)).trans t8
  replace t9 : σ1 h1 2 = σ h1 2 := (zz_w (b := h1) (j := 2) w1 (by omega)).trans t9
  replace t10 : σ1 h1 4 = σ h1 4 := (zz_w (b := h1) (j := 4) w1 (by omega)).trans t10
  replace t11 : σ1 h1 6 = σ h1 6 := (zz_w (b := h1) (j := 6) w1 (by omega)).trans t11
  replace t12 : σ1 h1 9 = σ h1 9 := (zz_w (b := h1) (j := 9) w1 (by omega)).trans t12
  replace t13 : σ1 h1 11 = σ h1 11 := (zz_w (b := h1) (j := 11) w1 (by omega)).trans t13
  refine lv_aload_n hx hb dX2_takeAll_8 rfl (lv_at hl 0 rfl) ?_
  refine lv_aload_n hx hb dX2_takeAll_9 rfl (lv_at hl 1 rfl) ?_
  refine zz_geti hx hb hts hi2 hown hK hP (g_h1.1) rfl 1 (by decide) (hts (.fieldLink RX2 9 "NoonLaw$Realm" "sleep" "I") (List.mem_cons_of_mem _ bm_42)) rfl rfl t8 dX2_takeAll_10 ?_
  refine zz_puti (v := σ h1 1) (ty := .int) hx hb hts hi2 tyX2 tyX2_ok nmX2 hown hK hP hS (g0.1) rfl 1 (by decide) (hts (.fieldLink RX2 9 "NoonLaw$Realm" "sleep" "I") (List.mem_cons_of_mem _ bm_42)) rfl rfl (by decide +kernel) rfl rfl rfl dX2_takeAll_13 (fun σ2 H locs w2 hP1 hS1 => ?_)
  replace hP := hP1
  replace hS := hS1
  clear hP1 hS1
  replace hC := hC.u w2 (dS11_25 h0)
  replace t0 : σ2 h0 0 = σ h1 0 := (zz_w (b := h0) (j := 0) w2 (fun q9 => absurd q9.2 (by decide))).trans t0
  replace t1 : σ2 h0 1 = σ h1 1 := zz_w1 w2
  replace t2 : σ2 h0 2 = σ h0 2 := (zz_w (b := h0) (j := 2) w2 (fun q9 => absurd q9.2 (by decide))).trans t2
  replace t3 : σ2 h0 4 = σ h0 4 := (zz_w (b := h0) (j := 4) w2 (fun q9 => absurd q9.2 (by decide))).trans t3
  replace t4 : σ2 h0 6 = σ h0 6 := (zz_w (b := h0) (j := 6) w2 (fun q9 => absurd q9.2 (by decide))).trans t4
  replace t5 : σ2 h0 9 = σ h0 9 := (zz_w (b := h0) (j := 9) w2 (fun q9 => absurd q9.2 (by decide))).trans t5
  replace t6 : σ2 h0 11 = σ h0 11 := (zz_w (b := h0) (j := 11) w2 (fun q9 => absurd q9.2 (by decide))).trans t6
  replace t7 : σ2 h1 0 = σ h1 0 := (zz_w (b := h1) (j := 0) w2 (by omega)).trans t7
  replace t8 : σ2 h1 1 = σ h1 1 := (zz_w (b := h1) (j := 1) w2 (by omega)).trans t8
  replace t9 : σ2 h1 2 = σ h1 2 := (zz_w (b := h1) (j := 2) w2 (by omega)).trans t9
  replace t10 : σ2 h1 4 = σ h1 4 := (zz_w (b := h1) (j := 4) w2 (by omega)).trans t10
  replace t11 : σ2 h1 6 = σ h1 6 := (zz_w (b := h1) (j := 6) w2 (by omega)).trans t11
  replace t12 : σ2 h1 9 = σ h1 9 := (zz_w (b := h1) (j := 9) w2 (by omega)).trans t12
  replace t13 : σ2 h1 11 = σ h1 11 := (zz_w (b := h1) (j := 11) w2 (by omega)).trans t13
  refine lv_aload_n hx hb dX2_takeAll_16 rfl (lv_at hl 0 rfl) ?_
  refine lv_aload_n hx hb dX2_takeAll_17 rfl (lv_at hl 1 rfl) ?_
  refine zz_geti hx hb hts hi2 hown hK hP (g_h1.1) rfl 2 (by decide) (hts (.fieldLink RX2 15 "NoonLaw$Realm" "z" "I") (List.mem_cons_of_mem _ bm_43)) rfl rfl t9 dX2_takeAll_18 ?_
  refine zz_puti (v := σ h1 2) (ty := .int) hx hb hts hi2 tyX2 tyX2_ok nmX2 hown hK hP hS (g0.1) rfl 2 (by decide) (hts (.fieldLink RX2 15 "NoonLaw$Realm" "z" "I") (List.mem_cons_of_mem _ bm_43)) rfl rfl (by decide +kernel) rfl rfl rfl dX2_takeAll_21 (fun σ3 H locs w3 hP1 hS1 => ?_)
  replace hP := hP1
  replace hS := hS1
  clear hP1 hS1
  replace hC := hC.u w3 (dS11_25 h0)
  replace t0 : σ3 h0 0 = σ h1 0 := (zz_w (b := h0) (j := 0) w3 (fun q9 => absurd q9.2 (by decide))).trans t0
  replace t1 : σ3 h0 1 = σ h1 1 := (zz_w (b := h0) (j := 1) w3 (fun q9 => absurd q9.2 (by decide))).trans t1
  replace t2 : σ3 h0 2 = σ h1 2 := zz_w1 w3
  replace t3 : σ3 h0 4 = σ h0 4 := (zz_w (b := h0) (j := 4) w3 (fun q9 => absurd q9.2 (by decide))).trans t3
  replace t4 : σ3 h0 6 = σ h0 6 := (zz_w (b := h0) (j := 6) w3 (fun q9 => absurd q9.2 (by decide))).trans t4
  replace t5 : σ3 h0 9 = σ h0 9 := (zz_w (b := h0) (j := 9) w3 (fun q9 => absurd q9.2 (by decide))).trans t5
  replace t6 : σ3 h0 11 = σ h0 11 := (zz_w (b := h0) (j := 11) w3 (fun q9 => absurd q9.2 (by decide))).trans t6
  replace t7 : σ3 h1 0 = σ h1 0 := (zz_w (b := h1) (j := 0) w3 (by omega)).trans t7
  replace t8 : σ3 h1 1 = σ h1 1 := (zz_w (b := h1) (j := 1) w3 (by omega)).trans t8
  replace t9 : σ3 h1 2 = σ h1 2 := (zz_w (b := h1) (j := 2) w3 (by omega)).trans t9
  replace t10 : σ3 h1 4 = σ h1 4 := (zz_w (b := h1) (j := 4) w3 (by omega)).trans t10
  replace t11 : σ3 h1 6 = σ h1 6 := (zz_w (b := h1) (j := 6) w3 (by omega)).trans t11
  replace t12 : σ3 h1 9 = σ h1 9 := (zz_w (b := h1) (j := 9) w3 (by omega)).trans t12
  replace t13 : σ3 h1 11 = σ h1 11 := (zz_w (b := h1) (j := 11) w3 (by omega)).trans t13
  refine lv_iconst (v := 0) hx hb dX2_takeAll_24 (by decide) ?_
  refine lv_istore_n (lv' := [(2, .int 0), (0, .ref h0), (1, .ref h1)]) hx hb dX2_takeAll_25 rfl hl (by decide) rfl (fun ls hl => ?_)
  have J26 : ∀ (n : Nat) (ii : Int32) (σa : zz_S) (H : Heap) (locs : List Loc) (ls : Array Slot), ((9 - ii.toInt).toNat) < n → (zz_ch (fun a k => h0 ≤ a ∧ a < h0 + 27) σ σa) → (0 ≤ ii.toInt) → (∀ j : Nat, (j : Int) < ii.toInt → j < 9 → ∀ f : Nat, f < 6 → σa (h0 + 6 + 1 * j) f = σ (h1 + 6 + 1 * j) f) → (σa h0 0 = σ h1 0) → (σa h0 1 = σ h1 1) → (σa h0 2 = σ h1 2) → (σa h0 4 = σ h0 4) → (σa h0 6 = σ h0 6) → (σa h0 9 = σ h0 9) → (σa h0 11 = σ h0 11) → (σa h1 0 = σ h1 0) → (σa h1 1 = σ h1 1) → (σa h1 2 = σ h1 2) → (σa h1 4 = σ h1 4) → (σa h1 6 = σ h1 6) → (σa h1 9 = σ h1 9) → (σa h1 11 = σ h1 11) → zz_P E σa H → va_S (zz_A E) s.heap H locs → lv_has ls 3 [(2, .int ii), (0, .ref h0), (1, .ref h1)] → W p l e (headSpec wzX2_takeAll ({ frames := 2, cells := 0, slots := 0, locals := 63 })).room s m args below meth c H locs 0 0 (MQ below (va_Qv (fun σ1 => zz_ch (fun a k => h0 ≤ a ∧ a < h0 + 27) σ σ1 ∧ (σ1 h0 0 = σ h1 0 ∧ σ1 h0 1 = σ h1 1 ∧ σ1 h0 2 = σ h1 2 ∧ σ1 h0 4 = σ h1 4 ∧ σ1 h0 6 = σ h1 6 ∧ σ1 h0 9 = σ h1 9 ∧ σ1 h0 11 = σ h1 11 ∧ (∀ j : Nat, j < 2 → 0 ≤ (σ1 (h0 + 21 + 3 * j) 1).toInt ∧ (σ1 (h0 + 21 + 3 * j) 1).toInt ≤ 60) ∧ (∀ j : Nat, j < 60 → fits .byte (.int (σ1 (h0 + 4) j)) = true) ∧ (∀ j : Nat, j < 2 → (σ1 (h0 + 21 + 3 * j) 0).toInt = 0 ∨ (σ1 (h0 + 21 + 3 * j) 0).toInt = 1) ∧ zz_DX σ1 h0 = zz_DX σ h1 ∧ zz_PX 0 σ1 h0 = zz_PX 0 σ h1 ∧ zz_PX 1 σ1 h0 = zz_PX 1 σ h1 ∧ zz_XT σ1 h0 = zz_XT σ h1 ∧ (∀ j : Nat, j < 60 → σ1 (h0 + 4) j = σ (h1 + 4) j) ∧ ∀ j : Nat, j < 24 → σ1 (h0 + 5) j = σ (h1 + 5) j)) (zz_B E) (zz_A E)) args s 0 0 (zz_A E)) (F0 m 26 ls []) := by
    intro n
    induction n with
    | zero => intro ii σa H locs ls hm; exact absurd hm (Nat.not_lt_zero _)
    | succ n ih26 =>
      intro ii σa H locs ls hm hC f26_0 f26_1 t0 t1 t2 t3 t4 t5 t6 t7 t8 t9 t10 t11 t12 t13 hP hS hl
      refine lv_iload_n hx hb dX2_takeAll_26 rfl (lv_at hl 0 rfl) ?_
      refine lv_bipush (v := 9) hx hb dX2_takeAll_27 (by decide) ?_
      refine lv_icmp_ge (tgt := 53) hx hb dX2_takeAll_29 (by decide) (fun c4 => ?_) (fun c4 => ?_)
      · have c4 := zz_leT c4
        refine lv_aload_n hx hb dX2_takeAll_53 rfl (lv_at hl 1 rfl) ?_
        refine lv_aload_n hx hb dX2_takeAll_54 rfl (lv_at hl 2 rfl) ?_
        refine zz_geti hx hb hts hi2 hown hK hP (g_h1.1) rfl 4 (by decide) (hts (.fieldLink RX2 54 "NoonLaw$Realm" "dreamCount" "I") (List.mem_cons_of_mem _ bm_127)) rfl rfl t10 dX2_takeAll_55 ?_
        refine zz_puti (v := σ h1 4) (ty := .int) hx hb hts hi2 tyX2 tyX2_ok nmX2 hown hK hP hS (g0.1) rfl 4 (by decide) (hts (.fieldLink RX2 54 "NoonLaw$Realm" "dreamCount" "I") (List.mem_cons_of_mem _ bm_127)) rfl rfl (by decide +kernel) rfl rfl rfl dX2_takeAll_58 (fun σ5 H locs w5 hP1 hS1 => ?_)
        replace hP := hP1
        replace hS := hS1
        clear hP1 hS1
        replace hC := hC.u w5 (dS11_25 h0)
        replace t0 : σ5 h0 0 = σ h1 0 := (zz_w (b := h0) (j := 0) w5 (fun q9 => absurd q9.2 (by decide))).trans t0
        replace t1 : σ5 h0 1 = σ h1 1 := (zz_w (b := h0) (j := 1) w5 (fun q9 => absurd q9.2 (by decide))).trans t1
        replace t2 : σ5 h0 2 = σ h1 2 := (zz_w (b := h0) (j := 2) w5 (fun q9 => absurd q9.2 (by decide))).trans t2
        replace t3 : σ5 h0 4 = σ h1 4 := zz_w1 w5
        replace t4 : σ5 h0 6 = σ h0 6 := (zz_w (b := h0) (j := 6) w5 (fun q9 => absurd q9.2 (by decide))).trans t4
        replace t5 : σ5 h0 9 = σ h0 9 := (zz_w (b := h0) (j := 9) w5 (fun q9 => absurd q9.2 (by decide))).trans t5
        replace t6 : σ5 h0 11 = σ h0 11 := (zz_w (b := h0) (j := 11) w5 (fun q9 => absurd q9.2 (by decide))).trans t6
        replace t7 : σ5 h1 0 = σ h1 0 := (zz_w (b := h1) (j := 0) w5 (by omega)).trans t7
        replace t8 : σ5 h1 1 = σ h1 1 := (zz_w (b := h1) (j := 1) w5 (by omega)).trans t8
        replace t9 : σ5 h1 2 = σ h1 2 := (zz_w (b := h1) (j := 2) w5 (by omega)).trans t9
        replace t10 : σ5 h1 4 = σ h1 4 := (zz_w (b := h1) (j := 4) w5 (by omega)).trans t10
        replace t11 : σ5 h1 6 = σ h1 6 := (zz_w (b := h1) (j := 6) w5 (by omega)).trans t11
        replace t12 : σ5 h1 9 = σ h1 9 := (zz_w (b := h1) (j := 9) w5 (by omega)).trans t12
        replace t13 : σ5 h1 11 = σ h1 11 := (zz_w (b := h1) (j := 11) w5 (by omega)).trans t13
        refine lv_iconst (v := 0) hx hb dX2_takeAll_61 (by decide) ?_
        refine lv_istore_n (lv' := [(2, .int 0), (0, .ref h0), (1, .ref h1)]) hx hb dX2_takeAll_62 rfl hl (by decide) rfl (fun ls hl => ?_)
        have J63 : ∀ (n : Nat) (ii : Int32) (σb : zz_S) (H : Heap) (locs : List Loc) (ls : Array Slot), ((6 - ii.toInt).toNat) < n → (zz_ch (fun a k => h0 ≤ a ∧ a < h0 + 27) σ σb) → (0 ≤ ii.toInt) → (∀ j : Nat, (j : Int) < ii.toInt → j < 6 → ∀ f : Nat, f < 2 → σb (h0 + 15 + 1 * j) f = σ (h1 + 15 + 1 * j) f) → (∀ j : Nat, j < 9 → ∀ f : Nat, f < 6 → σb (h0 + 6 + 1 * j) f = σ (h1 + 6 + 1 * j) f) → (σb h0 0 = σ h1 0) → (σb h0 1 = σ h1 1) → (σb h0 2 = σ h1 2) → (σb h0 4 = σ h1 4) → (σb h0 6 = σ h0 6) → (σb h0 9 = σ h0 9) → (σb h0 11 = σ h0 11) → (σb h1 0 = σ h1 0) → (σb h1 1 = σ h1 1) → (σb h1 2 = σ h1 2) → (σb h1 4 = σ h1 4) → (σb h1 6 = σ h1 6) → (σb h1 9 = σ h1 9) → (σb h1 11 = σ h1 11) → zz_P E σb H → va_S (zz_A E) s.heap H locs → lv_has ls 3 [(2, .int ii), (0, .ref h0), (1, .ref h1)] → W p l e (headSpec wzX2_takeAll ({ frames := 2, cells := 0, slots := 0, locals := 63 })).room s m args below meth c H locs 0 0 (MQ below (va_Qv (fun σ1 => zz_ch (fun a k => h0 ≤ a ∧ a < h0 + 27) σ σ1 ∧ (σ1 h0 0 = σ h1 0 ∧ σ1 h0 1 = σ h1 1 ∧ σ1 h0 2 = σ h1 2 ∧ σ1 h0 4 = σ h1 4 ∧ σ1 h0 6 = σ h1 6 ∧ σ1 h0 9 = σ h1 9 ∧ σ1 h0 11 = σ h1 11 ∧ (∀ j : Nat, j < 2 → 0 ≤ (σ1 (h0 + 21 + 3 * j) 1).toInt ∧ (σ1 (h0 + 21 + 3 * j) 1).toInt ≤ 60) ∧ (∀ j : Nat, j < 60 → fits .byte (.int (σ1 (h0 + 4) j)) = true) ∧ (∀ j : Nat, j < 2 → (σ1 (h0 + 21 + 3 * j) 0).toInt = 0 ∨ (σ1 (h0 + 21 + 3 * j) 0).toInt = 1) ∧ zz_DX σ1 h0 = zz_DX σ h1 ∧ zz_PX 0 σ1 h0 = zz_PX 0 σ h1 ∧ zz_PX 1 σ1 h0 = zz_PX 1 σ h1 ∧ zz_XT σ1 h0 = zz_XT σ h1 ∧ (∀ j : Nat, j < 60 → σ1 (h0 + 4) j = σ (h1 + 4) j) ∧ ∀ j : Nat, j < 24 → σ1 (h0 + 5) j = σ (h1 + 5) j)) (zz_B E) (zz_A E)) args s 0 0 (zz_A E)) (F0 m 63 ls []) := by
          intro n
          induction n with
          | zero => intro ii σb H locs ls hm; exact absurd hm (Nat.not_lt_zero _)
          | succ n ih63 =>
            intro ii σb H locs ls hm hC f63_0 f63_1 f63_2 t0 t1 t2 t3 t4 t5 t6 t7 t8 t9 t10 t11 t12 t13 hP hS hl
            refine lv_iload_n hx hb dX2_takeAll_63 rfl (lv_at hl 0 rfl) ?_
            refine lv_bipush (v := 6) hx hb dX2_takeAll_64 (by decide) ?_
            refine lv_icmp_ge (tgt := 90) hx hb dX2_takeAll_66 (by decide) (fun c6 => ?_) (fun c6 => ?_)
            · have c6 := zz_leT c6
              refine lv_aload_n hx hb dX2_takeAll_90 rfl (lv_at hl 1 rfl) ?_
              refine lv_aload_n hx hb dX2_takeAll_91 rfl (lv_at hl 2 rfl) ?_
              refine zz_geti hx hb hts hi2 hown hK hP (g_h1.1) rfl 6 (by decide) (hts (.fieldLink RX2 60 "NoonLaw$Realm" "peopleCount" "I") (List.mem_cons_of_mem _ bm_314)) rfl rfl t11 dX2_takeAll_92 ?_
              refine zz_puti (v := σ h1 6) (ty := .int) hx hb hts hi2 tyX2 tyX2_ok nmX2 hown hK hP hS (g0.1) rfl 6 (by decide) (hts (.fieldLink RX2 60 "NoonLaw$Realm" "peopleCount" "I") (List.mem_cons_of_mem _ bm_314)) rfl rfl (by decide +kernel) rfl rfl rfl dX2_takeAll_95 (fun σ7 H locs w7 hP1 hS1 => ?_)
              replace hP := hP1
              replace hS := hS1
              clear hP1 hS1
              replace hC := hC.u w7 (dS11_25 h0)
              replace t0 : σ7 h0 0 = σ h1 0 := (zz_w (b := h0) (j := 0) w7 (fun q9 => absurd q9.2 (by decide))).trans t0
              replace t1 : σ7 h0 1 = σ h1 1 := (zz_w (b := h0) (j := 1) w7 (fun q9 => absurd q9.2 (by decide))).trans t1
              replace t2 : σ7 h0 2 = σ h1 2 := (zz_w (b := h0) (j := 2) w7 (fun q9 => absurd q9.2 (by decide))).trans t2
              replace t3 : σ7 h0 4 = σ h1 4 := (zz_w (b := h0) (j := 4) w7 (fun q9 => absurd q9.2 (by decide))).trans t3
              replace t4 : σ7 h0 6 = σ h1 6 := zz_w1 w7
              replace t5 : σ7 h0 9 = σ h0 9 := (zz_w (b := h0) (j := 9) w7 (fun q9 => absurd q9.2 (by decide))).trans t5
              replace t6 : σ7 h0 11 = σ h0 11 := (zz_w (b := h0) (j := 11) w7 (fun q9 => absurd q9.2 (by decide))).trans t6
              replace t7 : σ7 h1 0 = σ h1 0 := (zz_w (b := h1) (j := 0) w7 (by omega)).trans t7
              replace t8 : σ7 h1 1 = σ h1 1 := (zz_w (b := h1) (j := 1) w7 (by omega)).trans t8
              replace t9 : σ7 h1 2 = σ h1 2 := (zz_w (b := h1) (j := 2) w7 (by omega)).trans t9
              replace t10 : σ7 h1 4 = σ h1 4 := (zz_w (b := h1) (j := 4) w7 (by omega)).trans t10
              replace t11 : σ7 h1 6 = σ h1 6 := (zz_w (b := h1) (j := 6) w7 (by omega)).trans t11
              replace t12 : σ7 h1 9 = σ h1 9 := (zz_w (b := h1) (j := 9) w7 (by omega)).trans t12
              replace t13 : σ7 h1 11 = σ h1 11 := (zz_w (b := h1) (j := 11) w7 (by omega)).trans t13
              refine lv_iconst (v := 0) hx hb dX2_takeAll_98 (by decide) ?_
              refine lv_istore_n (lv' := [(2, .int 0), (0, .ref h0), (1, .ref h1)]) hx hb dX2_takeAll_99 rfl hl (by decide) rfl (fun ls hl => ?_)
              have J100 : ∀ (n : Nat) (ii : Int32) (σc : zz_S) (H : Heap) (locs : List Loc) (ls : Array Slot), ((2 - ii.toInt).toNat) < n → (zz_ch (fun a k => h0 ≤ a ∧ a < h0 + 27) σ σc) → (0 ≤ ii.toInt) → (∀ j : Nat, (j : Int) < ii.toInt → j < 2 → 0 ≤ (σc (h0 + 21 + 3 * j) 1).toInt ∧ (σc (h0 + 21 + 3 * j) 1).toInt ≤ 60) → (∀ j : Nat, (j : Int) < ii.toInt → j < 2 → (σc (h0 + 21 + 3 * j) 0).toInt = 0 ∨ (σc (h0 + 21 + 3 * j) 0).toInt = 1) → (∀ j : Nat, j < 9 → ∀ f : Nat, f < 6 → σc (h0 + 6 + 1 * j) f = σ (h1 + 6 + 1 * j) f) → (∀ j : Nat, j < 6 → ∀ f : Nat, f < 2 → σc (h0 + 15 + 1 * j) f = σ (h1 + 15 + 1 * j) f) → (∀ j : Nat, (j : Int) < ii.toInt → j < 2 → σc (h0 + 21 + 3 * j) 0 = σ (h1 + 21 + 3 * j) 0 ∧ σc (h0 + 21 + 3 * j) 1 = σ (h1 + 21 + 3 * j) 1 ∧ ∀ k : Nat, (k : Int) < (σ (h1 + 21 + 3 * j) 1).toInt → σc (h0 + 21 + 3 * j + 1) k = σ (h1 + 21 + 3 * j + 1) k) → (σc h0 0 = σ h1 0) → (σc h0 1 = σ h1 1) → (σc h0 2 = σ h1 2) → (σc h0 4 = σ h1 4) → (σc h0 6 = σ h1 6) → (σc h0 9 = σ h0 9) → (σc h0 11 = σ h0 11) → (σc h1 0 = σ h1 0) → (σc h1 1 = σ h1 1) → (σc h1 2 = σ h1 2) → (σc h1 4 = σ h1 4) → (σc h1 6 = σ h1 6) → (σc h1 9 = σ h1 9) → (σc h1 11 = σ h1 11) → zz_P E σc H → va_S (zz_A E) s.heap H locs → lv_has ls 3 [(2, .int ii), (0, .ref h0), (1, .ref h1)] → W p l e (headSpec wzX2_takeAll ({ frames := 2, cells := 0, slots := 0, locals := 63 })).room s m args below meth c H locs 0 0 (MQ below (va_Qv (fun σ1 => zz_ch (fun a k => h0 ≤ a ∧ a < h0 + 27) σ σ1 ∧ (σ1 h0 0 = σ h1 0 ∧ σ1 h0 1 = σ h1 1 ∧ σ1 h0 2 = σ h1 2 ∧ σ1 h0 4 = σ h1 4 ∧ σ1 h0 6 = σ h1 6 ∧ σ1 h0 9 = σ h1 9 ∧ σ1 h0 11 = σ h1 11 ∧ (∀ j : Nat, j < 2 → 0 ≤ (σ1 (h0 + 21 + 3 * j) 1).toInt ∧ (σ1 (h0 + 21 + 3 * j) 1).toInt ≤ 60) ∧ (∀ j : Nat, j < 60 → fits .byte (.int (σ1 (h0 + 4) j)) = true) ∧ (∀ j : Nat, j < 2 → (σ1 (h0 + 21 + 3 * j) 0).toInt = 0 ∨ (σ1 (h0 + 21 + 3 * j) 0).toInt = 1) ∧ zz_DX σ1 h0 = zz_DX σ h1 ∧ zz_PX 0 σ1 h0 = zz_PX 0 σ h1 ∧ zz_PX 1 σ1 h0 = zz_PX 1 σ h1 ∧ zz_XT σ1 h0 = zz_XT σ h1 ∧ (∀ j : Nat, j < 60 → σ1 (h0 + 4) j = σ (h1 + 4) j) ∧ ∀ j : Nat, j < 24 → σ1 (h0 + 5) j = σ (h1 + 5) j)) (zz_B E) (zz_A E)) args s 0 0 (zz_A E)) (F0 m 100 ls []) := by
                intro n
                induction n with
                | zero => intro ii σc H locs ls hm; exact absurd hm (Nat.not_lt_zero _)
                | succ n ih100 =>
                  intro ii σc H locs ls hm hC f100_0 f100_1 f100_2 f100_3 f100_4 f100_5 t0 t1 t2 t3 t4 t5 t6 t7 t8 t9 t10 t11 t12 t13 hP hS hl
                  have hC0 := hC
                  refine lv_iload_n hx hb dX2_takeAll_100 rfl (lv_at hl 0 rfl) ?_
                  refine lv_iconst (v := 2) hx hb dX2_takeAll_101 (by decide) ?_
                  refine lv_icmp_ge (tgt := 156) hx hb dX2_takeAll_102 (by decide) (fun c8 => ?_) (fun c8 => ?_)
                  · have c8 := zz_leT c8
                    refine lv_aload_n hx hb dX2_takeAll_156 rfl (lv_at hl 2 rfl) ?_
                    refine zz_getr hx hb hts hi2 hown hK hP (g_h1.1) rfl 8 (by decide) (hts (.fieldLink RX2 36 "NoonLaw$Realm" "tape" "[B") (List.mem_cons_of_mem _ bm_51)) rfl rfl dX2_takeAll_157 ?_
                    refine lv_iconst (v := 0) hx hb dX2_takeAll_160 (by decide) ?_
                    refine lv_aload_n hx hb dX2_takeAll_161 rfl (lv_at hl 1 rfl) ?_
                    refine zz_getr hx hb hts hi2 hown hK hP (g0.1) rfl 8 (by decide) (hts (.fieldLink RX2 36 "NoonLaw$Realm" "tape" "[B") (List.mem_cons_of_mem _ bm_51)) rfl rfl dX2_takeAll_162 ?_
                    refine lv_iconst (v := 0) hx hb dX2_takeAll_165 (by decide) ?_
                    refine lv_bipush (v := 60) hx hb dX2_takeAll_166 (by decide) ?_
                    refine zz_copy hx hb (hml.trans hl.1.symm) hown (hts (.methodLink RX2 76 arraycopyName) (List.mem_cons_of_mem _ bm_954)) (hts (.native arraycopyName) (List.mem_cons_of_mem _ bm_454)) (hts (.static arraycopyName) (List.mem_cons_of_mem _ bm_455)) (hts (.initialized "java/lang/System") (List.mem_cons_of_mem _ bm_456)) hK hP hS 1 rfl rfl (g_h1.2.2.2.2.1) (g0.2.2.2.2.1) (by omega) (by omega) (by omega) (by omega) (by omega) (fun j hj => by rw [(hC _ _ (by first | (dsimp only; omega) | omega))]; exact hfit j hj) (Nat.le_of_ble_eq_true rfl) (Nat.le_of_ble_eq_true rfl) dX2_takeAll_168 (fun σ9 H locs w9 hP1 hS1 => ?_)
                    replace hP := hP1
                    replace hS := hS1
                    clear hP1 hS1
                    replace hC := hC.cp w9 (by intro k; first | (dsimp only; omega) | omega | (dsimp only; done))
                    replace t0 : σ9 h0 0 = σ h1 0 := (by rw [w9, zz_cpb (by omega)] : σ9 h0 0 = σc h0 0).trans t0
                    replace t1 : σ9 h0 1 = σ h1 1 := (by rw [w9, zz_cpb (by omega)] : σ9 h0 1 = σc h0 1).trans t1
                    replace t2 : σ9 h0 2 = σ h1 2 := (by rw [w9, zz_cpb (by omega)] : σ9 h0 2 = σc h0 2).trans t2
                    replace t3 : σ9 h0 4 = σ h1 4 := (by rw [w9, zz_cpb (by omega)] : σ9 h0 4 = σc h0 4).trans t3
                    replace t4 : σ9 h0 6 = σ h1 6 := (by rw [w9, zz_cpb (by omega)] : σ9 h0 6 = σc h0 6).trans t4
                    replace t5 : σ9 h0 9 = σ h0 9 := (by rw [w9, zz_cpb (by omega)] : σ9 h0 9 = σc h0 9).trans t5
                    replace t6 : σ9 h0 11 = σ h0 11 := (by rw [w9, zz_cpb (by omega)] : σ9 h0 11 = σc h0 11).trans t6
                    replace t7 : σ9 h1 0 = σ h1 0 := (by rw [w9, zz_cpb (by omega)] : σ9 h1 0 = σc h1 0).trans t7
                    replace t8 : σ9 h1 1 = σ h1 1 := (by rw [w9, zz_cpb (by omega)] : σ9 h1 1 = σc h1 1).trans t8
                    replace t9 : σ9 h1 2 = σ h1 2 := (by rw [w9, zz_cpb (by omega)] : σ9 h1 2 = σc h1 2).trans t9
                    replace t10 : σ9 h1 4 = σ h1 4 := (by rw [w9, zz_cpb (by omega)] : σ9 h1 4 = σc h1 4).trans t10
                    replace t11 : σ9 h1 6 = σ h1 6 := (by rw [w9, zz_cpb (by omega)] : σ9 h1 6 = σc h1 6).trans t11
                    replace t12 : σ9 h1 9 = σ h1 9 := (by rw [w9, zz_cpb (by omega)] : σ9 h1 9 = σc h1 9).trans t12
                    replace t13 : σ9 h1 11 = σ h1 11 := (by rw [w9, zz_cpb (by omega)] : σ9 h1 11 = σc h1 11).trans t13
                    refine lv_aload_n hx hb dX2_takeAll_171 rfl (lv_at hl 1 rfl) ?_
                    refine lv_aload_n hx hb dX2_takeAll_172 rfl (lv_at hl 2 rfl) ?_
                    refine zz_geti hx hb hts hi2 hown hK hP (g_h1.1) rfl 9 (by decide) (hts (.fieldLink RX2 82 "NoonLaw$Realm" "tapeCount" "I") (List.mem_cons_of_mem _ bm_955)) rfl rfl t12 dX2_takeAll_173 ?_
                    refine zz_puti (v := σ h1 9) (ty := .int) hx hb hts hi2 tyX2 tyX2_ok nmX2 hown hK hP hS (g0.1) rfl 9 (by decide) (hts (.fieldLink RX2 82 "NoonLaw$Realm" "tapeCount" "I") (List.mem_cons_of_mem _ bm_955)) rfl rfl (by decide +kernel) rfl rfl rfl dX2_takeAll_176 (fun σ10 H locs w10 hP1 hS1 => ?_)
                    replace hP := hP1
                    replace hS := hS1
                    clear hP1 hS1
                    replace hC := hC.u w10 (dS11_25 h0)
                    replace t0 : σ10 h0 0 = σ h1 0 := (zz_w (b := h0) (j := 0) w10 (fun q9 => absurd q9.2 (by decide))).trans t0
                    replace t1 : σ10 h0 1 = σ h1 1 := (zz_w (b := h0) (j := 1) w10 (fun q9 => absurd q9.2 (by decide))).trans t1
                    replace t2 : σ10 h0 2 = σ h1 2 := (zz_w (b := h0) (j := 2) w10 (fun q9 => absurd q9.2 (by decide))).trans t2
                    replace t3 : σ10 h0 4 = σ h1 4 := (zz_w (b := h0) (j := 4) w10 (fun q9 => absurd q9.2 (by decide))).trans t3
                    replace t4 : σ10 h0 6 = σ h1 6 := (zz_w (b := h0) (j := 6) w10 (fun q9 => absurd q9.2 (by decide))).trans t4
                    replace t5 : σ10 h0 9 = σ h1 9 := zz_w1 w10
                    replace t6 : σ10 h0 11 = σ h0 11 := (zz_w (b := h0) (j := 11) w10 (fun q9 => absurd q9.2 (by decide))).trans t6
                    replace t7 : σ10 h1 0 = σ h1 0 := (zz_w (b := h1) (j := 0) w10 (by omega)).trans t7
                    replace t8 : σ10 h1 1 = σ h1 1 := (zz_w (b := h1) (j := 1) w10 (by omega)).trans t8
                    replace t9 : σ10 h1 2 = σ h1 2 := (zz_w (b := h1) (j := 2) w10 (by omega)).trans t9
                    replace t10 : σ10 h1 4 = σ h1 4 := (zz_w (b := h1) (j := 4) w10 (by omega)).trans t10
                    replace t11 : σ10 h1 6 = σ h1 6 := (zz_w (b := h1) (j := 6) w10 (by omega)).trans t11
                    replace t12 : σ10 h1 9 = σ h1 9 := (zz_w (b := h1) (j := 9) w10 (by omega)).trans t12
                    replace t13 : σ10 h1 11 = σ h1 11 := (zz_w (b := h1) (j := 11) w10 (by omega)).trans t13
                    refine lv_aload_n hx hb dX2_takeAll_179 rfl (lv_at hl 2 rfl) ?_
                    refine zz_getr hx hb hts hi2 hown hK hP (g_h1.1) rfl 10 (by decide) (hts (.fieldLink RX2 40 "NoonLaw$Realm" "waiting" "[I") (List.mem_cons_of_mem _ bm_52)) rfl rfl dX2_takeAll_180 ?_
                    refine lv_iconst (v := 0) hx hb dX2_takeAll_183 (by decide) ?_
                    refine lv_aload_n hx hb dX2_takeAll_184 rfl (lv_at hl 1 rfl) ?_
                    refine zz_getr hx hb hts hi2 hown hK hP (g0.1) rfl 10 (by decide) (hts (.fieldLink RX2 40 "NoonLaw$Realm" "waiting" "[I") (List.mem_cons_of_mem _ bm_52)) rfl rfl dX2_takeAll_185 ?_
                    refine lv_iconst (v := 0) hx hb dX2_takeAll_188 (by decide) ?_
                    refine lv_bipush (v := 24) hx hb dX2_takeAll_189 (by decide) ?_
                    refine zz_copy hx hb (hml.trans hl.1.symm) hown (hts (.methodLink RX2 76 arraycopyName) (List.mem_cons_of_mem _ bm_954)) (hts (.native arraycopyName) (List.mem_cons_of_mem _ bm_454)) (hts (.static arraycopyName) (List.mem_cons_of_mem _ bm_455)) (hts (.initialized "java/lang/System") (List.mem_cons_of_mem _ bm_456)) hK hP hS 0 rfl rfl (g_h1.2.2.2.2.2.1) (g0.2.2.2.2.2.1) (by omega) (by omega) (by omega) (by omega) (by omega) (fun _ _ => rfl) (Nat.le_of_ble_eq_true rfl) (Nat.le_of_ble_eq_true rfl) dX2_takeAll_191 (fun σ11 H locs w11 hP1 hS1 => ?_)
                    replace hP := hP1
                    replace hS := hS1
                    clear hP1 hS1
                    replace hC := hC.cp w11 (by intro k; first | (dsimp only; omega) | omega | (dsimp only; done))
                    replace t0 : σ11 h0 0 = σ h1 0 := (by rw [w11, zz_cpb (by omega)] : σ11 h0 0 = σ10 h0 0).trans t0
                    replace t1 : σ11 h0 1 = σ h1 1 := (by rw [w11, zz_cpb (by omega)] : σ11 h0 1 = σ10 h0 1).trans t1
                    replace t2 : σ11 h0 2 = σ h1 2 := (by rw [w11, zz_cpb (by omega)] : σ11 h0 2 = σ10 h0 2).trans t2
                    replace t3 : σ11 h0 4 = σ h1 4 := (by rw [w11, zz_cpb (by omega)] : σ11 h0 4 = σ10 h0 4).trans t3
                    replace t4 : σ11 h0 6 = σ h1 6 := (by rw [w11, zz_cpb (by omega)] : σ11 h0 6 = σ10 h0 6).trans t4
                    replace t5 : σ11 h0 9 = σ h1 9 := (by rw [w11, zz_cpb (by omega)] : σ11 h0 9 = σ10 h0 9).trans t5
                    replace t6 : σ11 h0 11 = σ h0 11 := (by rw [w11, zz_cpb (by omega)] : σ11 h0 11 = σ10 h0 11).trans t6
                    replace t7 : σ11 h1 0 = σ h1 0 := (by rw [w11, zz_cpb (by omega)] : σ11 h1 0 = σ10 h1 0).trans t7
                    replace t8 : σ11 h1 1 = σ h1 1 := (by rw [w11, zz_cpb (by omega)] : σ11 h1 1 = σ10 h1 1).trans t8
                    replace t9 : σ11 h1 2 = σ h1 2 := (by rw [w11, zz_cpb (by omega)] : σ11 h1 2 = σ10 h1 2).trans t9
                    replace t10 : σ11 h1 4 = σ h1 4 := (by rw [w11, zz_cpb (by omega)] : σ11 h1 4 = σ10 h1 4).trans t10
                    replace t11 : σ11 h1 6 = σ h1 6 := (by rw [w11, zz_cpb (by omega)] : σ11 h1 6 = σ10 h1 6).trans t11
                    replace t12 : σ11 h1 9 = σ h1 9 := (by rw [w11, zz_cpb (by omega)] : σ11 h1 9 = σ10 h1 9).trans t12
                    replace t13 : σ11 h1 11 = σ h1 11 := (by rw [w11, zz_cpb (by omega)] : σ11 h1 11 = σ10 h1 11).trans t13
                    refine lv_aload_n hx hb dX2_takeAll_194 rfl (lv_at hl 1 rfl) ?_
                    refine lv_aload_n hx hb dX2_takeAll_195 rfl (lv_at hl 2 rfl) ?_
                    refine zz_geti hx hb hts hi2 hown hK hP (g_h1.1) rfl 11 (by decide) (hts (.fieldLink RX2 85 "NoonLaw$Realm" "waitingCount" "I") (List.mem_cons_of_mem _ bm_956)) rfl rfl t13 dX2_takeAll_196 ?_
                    refine zz_puti (v := σ h1 11) (ty := .int) hx hb hts hi2 tyX2 tyX2_ok nmX2 hown hK hP hS (g0.1) rfl 11 (by decide) (hts (.fieldLink RX2 85 "NoonLaw$Realm" "waitingCount" "I") (List.mem_cons_of_mem _ bm_956)) rfl rfl (by decide +kernel) rfl rfl rfl dX2_takeAll_199 (fun σ12 H locs w12 hP1 hS1 => ?_)
                    replace hP := hP1
                    replace hS := hS1
                    clear hP1 hS1
                    replace hC := hC.u w12 (dS11_25 h0)
                    replace t0 : σ12 h0 0 = σ h1 0 := (zz_w (b := h0) (j := 0) w12 (fun q9 => absurd q9.2 (by decide))).trans t0
                    replace t1 : σ12 h0 1 = σ h1 1 := (zz_w (b := h0) (j := 1) w12 (fun q9 => absurd q9.2 (by decide))).trans t1
                    replace t2 : σ12 h0 2 = σ h1 2 := (zz_w (b := h0) (j := 2) w12 (fun q9 => absurd q9.2 (by decide))).trans t2
                    replace t3 : σ12 h0 4 = σ h1 4 := (zz_w (b := h0) (j := 4) w12 (fun q9 => absurd q9.2 (by decide))).trans t3
                    replace t4 : σ12 h0 6 = σ h1 6 := (zz_w (b := h0) (j := 6) w12 (fun q9 => absurd q9.2 (by decide))).trans t4
                    replace t5 : σ12 h0 9 = σ h1 9 := (zz_w (b := h0) (j := 9) w12 (fun q9 => absurd q9.2 (by decide))).trans t5
                    replace t6 : σ12 h0 11 = σ h1 11 := zz_w1 w12
                    replace t7 : σ12 h1 0 = σ h1 0 := (zz_w (b := h1) (j := 0) w12 (by omega)).trans t7
                    replace t8 : σ12 h1 1 = σ h1 1 := (zz_w (b := h1) (j := 1) w12 (by omega)).trans t8
                    replace t9 : σ12 h1 2 = σ h1 2 := (zz_w (b := h1) (j := 2) w12 (by omega)).trans t9
                    replace t10 : σ12 h1 4 = σ h1 4 := (zz_w (b := h1) (j := 4) w12 (by omega)).trans t10
                    replace t11 : σ12 h1 6 = σ h1 6 := (zz_w (b := h1) (j := 6) w12 (by omega)).trans t11
                    replace t12 : σ12 h1 9 = σ h1 9 := (zz_w (b := h1) (j := 9) w12 (by omega)).trans t12
                    replace t13 : σ12 h1 11 = σ h1 11 := (zz_w (b := h1) (j := 11) w12 (by omega)).trans t13
                    have gD := zz_DX.eq (σ1 := σ12) (r1 := h0) (σ := σ) (r := h1) (fun j hj f hf => by rw [w12, zz_un (by omega), w11, zz_cpb (by omega), w10, zz_un (by omega), w9, zz_cpb (by omega)]; exact f100_3 j hj f hf)
                    have gP : ∀ j : Nat, j < 6 → ∀ f : Nat, f < 2 → σ12 (h0 + 15 + 1 * j) f = σ (h1 + 15 + 1 * j) f := fun j hj f hf => by rw [w12, zz_un (by omega), w11, zz_cpb (by omega), w10, zz_un (by omega), w9, zz_cpb (by omega)]; exact f100_4 j hj f hf
                    exact zz_vret hx hb hr hlocks hK hP hS dX2_takeAll_202 (by exact ⟨hC, t0, t1, t2, t3, t4, t5, t6, (by intro j hj; rw [w12, zz_un (by omega), w11, zz_cpb (by omega), w10, zz_un (by omega), w9, zz_cpb (by omega)]; exact f100_1 j (by omega) hj), (by intro j hj; rw [w12, zz_un (by omega), w11, zz_cpb (by omega), w10, zz_un (by omega), w9, zz_cpa, show (0 : Int32).toNatClampNeg = 0 from by decide, show (60 : Int32).toNatClampNeg = 60 from by decide, pk_cpy_in (Nat.zero_le _) (by omega), Nat.zero_add, Nat.sub_zero, hC0 _ _ (by first | (dsimp only; omega) | omega)]; exact hfit j hj), (by intro j hj; rw [w12, zz_un (by omega), w11, zz_cpb (by omega), w10, zz_un (by omega), w9, zz_cpb (by omega)]; exact f100_2 j (by omega) hj), gD, zz_PX.eq (fun j hj => gP j hj 0 (by decide)), zz_PX.eq (fun j hj => gP j hj 1 (by decide)), zz_XT.eq (fun u hu => by rw [w12, zz_un (by omega), w11, zz_cpb (by omega), w10, zz_un (by omega), w9, zz_cpb (by omega)]; exact (f100_5 u (by omega) hu).1) (fun u hu => by rw [w12, zz_un (by omega), w11, zz_cpb (by omega), w10, zz_un (by omega), w9, zz_cpb (by omega)]; exact (f100_5 u (by omega) hu).2.1) (fun u hu k hk => by rw [w12, zz_un (by omega), w11, zz_cpb (by omega), w10, zz_un (by omega), w9, zz_cpb (by omega)]; exact (f100_5 u (by omega) hu).2.2 k hk), (by intro j hj; rw [w12, zz_un (by omega), w11, zz_cpb (by omega), w10, zz_un (by omega), w9, zz_cpa, show (0 : Int32).toNatClampNeg = 0 from by decide, show (60 : Int32).toNatClampNeg = 60 from by decide, pk_cpy_in (Nat.zero_le _) (by omega), Nat.zero_add, Nat.sub_zero, hC0 _ _ (by first | (dsimp only; omega) | omega)]), (by intro j hj; rw [w12, zz_un (by omega), w11, zz_cpa, show (0 : Int32).toNatClampNeg = 0 from by decide, show (24 : Int32).toNatClampNeg = 24 from by decide, pk_cpy_in (Nat.zero_le _) (by omega), Nat.zero_add, Nat.sub_zero, w10, zz_un (by omega), w9, zz_cpb (by omega), hC0 _ _ (by first | (dsimp only; omega) | omega)])⟩)
                  · have c8 := zz_nleT c8
                    refine lv_aload_n hx hb dX2_takeAll_105 rfl (lv_at hl 1 rfl) ?_
                    refine zz_getr hx hb hts hi2 hown hK hP (g0.1) rfl 7 (by decide) (hts (.fieldLink RX2 32 "NoonLaw$Realm" "texts" "[LNoonLaw$Text;") (List.mem_cons_of_mem _ bm_49)) rfl rfl dX2_takeAll_106 ?_
                    refine lv_iload_n hx hb dX2_takeAll_109 rfl (lv_at hl 0 rfl) ?_
                    refine zz_aald hx hb hK hP (g0.2.2.2.1) rfl (by omega) (by omega) dX2_takeAll_110 (fun j13 q13 r13 => ?_)
                    refine lv_aload_n hx hb dX2_takeAll_111 rfl (lv_at hl 2 rfl) ?_
                    refine zz_getr hx hb hts hi2 hown hK hP (g_h1.1) rfl 7 (by decide) (hts (.fieldLink RX2 32 "NoonLaw$Realm" "texts" "[LNoonLaw$Text;") (List.mem_cons_of_mem _ bm_49)) rfl rfl dX2_takeAll_112 ?_
                    refine lv_iload_n hx hb dX2_takeAll_115 rfl (lv_at hl 0 rfl) ?_
                    refine zz_aald hx hb hK hP (g_h1.2.2.2.1) rfl (by omega) (by omega) dX2_takeAll_116 (fun j14 q14 r14 => ?_)
                    refine zz_getr hx hb hts hi6 hown hK hP ((g_h1.2.2.2.2.2.2.2.2 j14 r14).1) rfl 2 (by decide) (hts (.fieldLink RX2 63 "NoonLaw$Text" "codes" "[I") (List.mem_cons_of_mem _ bm_952)) rfl rfl dX2_takeAll_117 ?_
                    refine lv_aload_n hx hb dX2_takeAll_120 rfl (lv_at hl 2 rfl) ?_
                    refine zz_getr hx hb hts hi2 hown hK hP (g_h1.1) rfl 7 (by decide) (hts (.fieldLink RX2 32 "NoonLaw$Realm" "texts" "[LNoonLaw$Text;") (List.mem_cons_of_mem _ bm_49)) rfl rfl dX2_takeAll_121 ?_
                    refine lv_iload_n hx hb dX2_takeAll_124 rfl (lv_at hl 0 rfl) ?_
                    refine zz_aald hx hb hK hP (g_h1.2.2.2.1) rfl (by omega) (by omega) dX2_takeAll_125 (fun j15 q15 r15 => ?_)
                    refine zz_geti hx hb hts hi6 hown hK hP ((g_h1.2.2.2.2.2.2.2.2 j15 r15).1) rfl 1 (by decide) (hts (.fieldLink RX2 66 "NoonLaw$Text" "length" "I") (List.mem_cons_of_mem _ bm_953)) rfl rfl rfl dX2_takeAll_126 ?_
                    skip
                    refine zz_callVv (As := [.ref ((h1 + 21 + 3 * j14) + 1), .int (σc (h1 + 21 + 3 * j15) 1)]) (rest := []) ⟨hx, hb, hml, hown, hts⟩ hK hP hS (c_X6_take l E σc (h0 + 21 + 3 * j13) ((h1 + 21 + 3 * j14) + 1) (σc (h1 + 21 + 3 * j15) 1) (g0.2.2.2.2.2.2.2.2 j13 r13) ((g_h1.2.2.2.2.2.2.2.2 j14 r14).2.1)) (cwV 2 hts gX2_takeAll_X6_take rfl rfl rfl (by decide +kernel) ⟨Nat.le_of_ble_eq_true rfl, Nat.le_of_ble_eq_true rfl⟩) ((g0.2.2.2.2.2.2.2.2 j13 r13).1) rfl rfl hl.1 rfl (Nat.le_of_ble_eq_true rfl) dX2_takeAll_129 ⟨Nat.zero_le _, Nat.zero_le _⟩ (fun σ16 H locs q16 hP1 hS1 => ?_)
                    replace hP := hP1
                    replace hS := hS1
                    clear hP1 hS1
                    try dsimp only at q16
                    obtain ⟨w16, f16⟩ := q16
                    replace hC := hC.tr (w16.mono (by intro a k h; first | (dsimp only at h ⊢; omega) | omega | (dsimp only at h; omega) | (dsimp only; omega)))
                    try simp only [t0, t1, t2, t3, t4, t5, t6, t7, t8, t9, t10, t11, t12, t13] at f16
                    replace t0 : σ16 h0 0 = σ h1 0 := (w16 _ _ (by first | (dsimp only; omega) | omega)).trans t0
                    replace t1 : σ16 h0 1 = σ h1 1 := (w16 _ _ (by first | (dsimp only; omega) | omega)).trans t1
                    replace t2 : σ16 h0 2 = σ h1 2 := (w16 _ _ (by first | (dsimp only; omega) | omega)).trans t2
                    replace t3 : σ16 h0 4 = σ h1 4 := (w16 _ _ (by first | (dsimp only; omega) | omega)).trans t3
                    replace t4 : σ16 h0 6 = σ h1 6 := (w16 _ _ (by first | (dsimp only; omega) | omega)).trans t4
                    replace t5 : σ16 h0 9 = σ h0 9 := (w16 _ _ (by first | (dsimp only; omega) | omega)).trans t5
                    replace t6 : σ16 h0 11 = σ h0 11 := (w16 _ _ (by first | (dsimp only; omega) | omega)).trans t6
                    replace t7 : σ16 h1 0 = σ h1 0 := (w16 _ _ (by first | (dsimp only; omega) | omega)).trans t7
                    replace t8 : σ16 h1 1 = σ h1 1 := (w16 _ _ (by first | (dsimp only; omega) | omega)).trans t8
                    replace t9 : σ16 h1 2 = σ h1 2 := (w16 _ _ (by first | (dsimp only; omega) | omega)).trans t9
                    replace t10 : σ16 h1 4 = σ h1 4 := (w16 _ _ (by first | (dsimp only; omega) | omega)).trans t10
                    replace t11 : σ16 h1 6 = σ h1 6 := (w16 _ _ (by first | (dsimp only; omega) | omega)).trans t11
                    replace t12 : σ16 h1 9 = σ h1 9 := (w16 _ _ (by first | (dsimp only; omega) | omega)).trans t12
                    replace t13 : σ16 h1 11 = σ h1 11 := (w16 _ _ (by first | (dsimp only; omega) | omega)).trans t13
                    refine lv_aload_n hx hb dX2_takeAll_132 rfl (lv_at hl 1 rfl) ?_
                    refine zz_getr hx hb hts hi2 hown hK hP (g0.1) rfl 7 (by decide) (hts (.fieldLink RX2 32 "NoonLaw$Realm" "texts" "[LNoonLaw$Text;") (List.mem_cons_of_mem _ bm_49)) rfl rfl dX2_takeAll_133 ?_
                    refine lv_iload_n hx hb dX2_takeAll_136 rfl (lv_at hl 0 rfl) ?_
                    refine zz_aald hx hb hK hP (g0.2.2.2.1) rfl (by omega) (by omega) dX2_takeAll_137 (fun j17 q17 r17 => ?_)
                    refine lv_aload_n hx hb dX2_takeAll_138 rfl (lv_at hl 2 rfl) ?_
                    refine zz_getr hx hb hts hi2 hown hK hP (g_h1.1) rfl 7 (by decide) (hts (.fieldLink RX2 32 "NoonLaw$Realm" "texts" "[LNoonLaw$Text;") (List.mem_cons_of_mem _ bm_49)) rfl rfl dX2_takeAll_139 ?_
                    refine lv_iload_n hx hb dX2_takeAll_142 rfl (lv_at hl 0 rfl) ?_
                    refine zz_aald hx hb hK hP (g_h1.2.2.2.1) rfl (by omega) (by omega) dX2_takeAll_143 (fun j18 q18 r18 => ?_)
                    refine zz_geti hx hb hts hi6 hown hK hP ((g_h1.2.2.2.2.2.2.2.2 j18 r18).1) rfl 0 (by decide) (hts (.fieldLink RX2 72 "NoonLaw$Text" "stands" "Z") (List.mem_cons_of_mem _ bm_210)) rfl rfl rfl dX2_takeAll_144 ?_
                    have hv : (σ16 (h1 + 21 + 3 * j18) 0).toInt = 0 ∨ (σ16 (h1 + 21 + 3 * j18) 0).toInt = 1 := by rw [(hC _ _ (by first | (dsimp only; omega) | omega))]; exact hz j18 r18
                    refine zz_puti (v := σ16 (h1 + 21 + 3 * j18) 0) (ty := .boolean) hx hb hts hi6 tyX6 tyX6_ok nmX6 hown hK hP hS ((g0.2.2.2.2.2.2.2.2 j17 r17).1) rfl 0 (by decide) (hts (.fieldLink RX2 72 "NoonLaw$Text" "stands" "Z") (List.mem_cons_of_mem _ bm_210)) rfl rfl (by decide +kernel) (zz_nz (by exact hv)) (zz_fz (by exact hv)) rfl dX2_takeAll_147 (fun σ19 H locs w19 hP1 hS1 => ?_)
                    replace hP := hP1
                    replace hS := hS1
                    clear hP1 hS1
                    replace hC := hC.u w19 (by first | (dsimp only; omega) | omega | (dsimp only; done))
                    replace t0 : σ19 h0 0 = σ h1 0 := (zz_w (b := h0) (j := 0) w19 (by omega)).trans t0
                    replace t1 : σ19 h0 1 = σ h1 1 := (zz_w (b := h0) (j := 1) w19 (by omega)).trans t1
                    replace t2 : σ19 h0 2 = σ h1 2 := (zz_w (b := h0) (j := 2) w19 (by omega)).trans t2
                    replace t3 : σ19 h0 4 = σ h1 4 := (zz_w (b := h0) (j := 4) w19 (by omega)).trans t3
                    replace t4 : σ19 h0 6 = σ h1 6 := (zz_w (b := h0) (j := 6) w19 (by omega)).trans t4
                    replace t5 : σ19 h0 9 = σ h0 9 := (zz_w (b := h0) (j := 9) w19 (by omega)).trans t5
                    replace t6 : σ19 h0 11 = σ h0 11 := (zz_w (b := h0) (j := 11) w19 (by omega)).trans t6
                    replace t7 : σ19 h1 0 = σ h1 0 := (zz_w (b := h1) (j := 0) w19 (by omega)).trans t7
                    replace t8 : σ19 h1 1 = σ h1 1 := (zz_w (b := h1) (j := 1) w19 (by omega)).trans t8
                    replace t9 : σ19 h1 2 = σ h1 2 := (zz_w (b := h1) (j := 2) w19 (by omega)).trans t9
                    replace t10 : σ19 h1 4 = σ h1 4 := (zz_w (b := h1) (j := 4) w19 (by omega)).trans t10
                    replace t11 : σ19 h1 6 = σ h1 6 := (zz_w (b := h1) (j := 6) w19 (by omega)).trans t11
                    replace t12 : σ19 h1 9 = σ h1 9 := (zz_w (b := h1) (j := 9) w19 (by omega)).trans t12
                    replace t13 : σ19 h1 11 = σ h1 11 := (zz_w (b := h1) (j := 11) w19 (by omega)).trans t13
                    obtain ⟨n20, e20⟩ : ∃ y : Int32, y = ii + 1 := ⟨_, rfl⟩
                    have f20 : n20.toInt = (ii).toInt + (1) := by have h9 := zz_addT e20 (by omega) (by omega); omega
                    refine lv_iinc (v := n20) (lv' := [(2, .int n20), (0, .ref h0), (1, .ref h1)]) hx hb dX2_takeAll_150 hl (k := 0) rfl (by rw [e20]; rfl) (by decide) rfl (fun ls hl => ?_)
                    refine lv_goto (tgt := 100) hx hb dX2_takeAll_153 (by decide) ?_
                    exact ih100 n20 σ19 _ _ _ (by omega) hC (by omega) (by intro j hj hj2; exact if hq : (j : Int) = ii.toInt then (by rw [w19, zz_un (by omega), show h0 + 21 + 3 * j = h0 + 21 + 3 * j13 from by omega]; exact f16.1) else (by rw [w19, zz_un (by omega), w16 _ _ (by first | (dsimp only; omega) | omega)]; exact f100_1 j (by omega) hj2)) (by intro j hj hj2; exact if hq : (j : Int) = ii.toInt then (by rw [show h0 + 21 + 3 * j = h0 + 21 + 3 * j17 from by omega, w19, zz_us]; exact hv) else (by rw [w19, zz_un (by omega), w16 _ _ (by first | (dsimp only; omega) | omega)]; exact f100_2 j (by omega) hj2)) (by intro j hj f hf; rw [w19, zz_un (by omega), w16 _ _ (by first | (dsimp only; omega) | omega)]; exact f100_3 j hj f hf) (by intro j hj f hf; rw [w19, zz_un (by omega), w16 _ _ (by first | (dsimp only; omega) | omega)]; exact f100_4 j hj f hf) (by intro j hj hj2; exact if hq : (j : Int) = ii.toInt then (by have e1 := f16.2.1 (by rw [hC0 _ _ (by first | (dsimp only; omega) | omega), show h1 + 21 + 3 * j15 = h1 + 21 + 3 * j from by omega]; exact hln j hj2); exact ⟨by rw [show h0 + 21 + 3 * j = h0 + 21 + 3 * j17 from by omega, w19, zz_us, w16 _ _ (by first | (dsimp only; omega) | omega), hC0 _ _ (by first | (dsimp only; omega) | omega), show h1 + 21 + 3 * j18 = h1 + 21 + 3 * j from by omega], by rw [w19, zz_un (by omega), show h0 + 21 + 3 * j = h0 + 21 + 3 * j13 from by omega]; exact zz_ext (by rw [e1.1, hC0 _ _ (by first | (dsimp only; omega) | omega), show h1 + 21 + 3 * j15 = h1 + 21 + 3 * j from by omega]), fun k hk => by rw [w19, zz_un (by omega), show h0 + 21 + 3 * j + 1 = h0 + 21 + 3 * j13 + 1 from by omega, e1.2 k (by rw [hC0 _ _ (by first | (dsimp only; omega) | omega), show h1 + 21 + 3 * j15 = h1 + 21 + 3 * j from by omega]; exact hk), hC0 _ _ (by first | (dsimp only; omega) | omega), show h1 + 21 + 3 * j14 + 1 = h1 + 21 + 3 * j + 1 from by omega]⟩) else (by obtain ⟨z0, z1, z2⟩ := f100_5 j (by omega) hj2; exact ⟨by rw [w19, zz_un (by omega), w16 _ _ (by first | (dsimp only; omega) | omega)]; exact z0, by rw [w19, zz_un (by omega), w16 _ _ (by first | (dsimp only; omega) | omega)]; exact z1, fun k hk => by rw [w19, zz_un (by omega), w16 _ _ (by first | (dsimp only; omega) | omega)]; exact z2 k hk⟩)) t0 t1 t2 t3 t4 t5 t6 t7 t8 t9 t10 t11 t12 t13 hP hS (lv_sub hl [0, 1, 2] rfl)
              exact J100 _ 0 σ7 _ _ _ (Nat.lt_succ_self _) hC (by omega) (by intro j hj hj2; omega) (by intro j hj hj2; omega) (by intro j hj f hf; rw [w7, zz_un (by omega)]; exact f63_2 j hj f hf) (by intro j hj f hf; rw [w7, zz_un (by omega)]; exact f63_1 j (by omega) hj f hf) (by intro j hj hj2; omega) t0 t1 t2 t3 t4 t5 t6 t7 t8 t9 t10 t11 t12 t13 hP hS (lv_sub hl [0, 1, 2] rfl)
            · have c6 := zz_nleT c6
              refine lv_aload_n hx hb dX2_takeAll_69 rfl (lv_at hl 1 rfl) ?_
              refine zz_getr hx hb hts hi2 hown hK hP (g0.1) rfl 5 (by decide) (hts (.fieldLink RX2 26 "NoonLaw$Realm" "people" "[LNoonLaw$Person;") (List.mem_cons_of_mem _ bm_47)) rfl rfl dX2_takeAll_70 ?_
              refine lv_iload_n hx hb dX2_takeAll_73 rfl (lv_at hl 0 rfl) ?_
              refine zz_aald hx hb hK hP (g0.2.2.1) rfl (by omega) (by omega) dX2_takeAll_74 (fun j21 q21 r21 => ?_)
              refine lv_aload_n hx hb dX2_takeAll_75 rfl (lv_at hl 2 rfl) ?_
              refine zz_getr hx hb hts hi2 hown hK hP (g_h1.1) rfl 5 (by decide) (hts (.fieldLink RX2 26 "NoonLaw$Realm" "people" "[LNoonLaw$Person;") (List.mem_cons_of_mem _ bm_47)) rfl rfl dX2_takeAll_76 ?_
              refine lv_iload_n hx hb dX2_takeAll_79 rfl (lv_at hl 0 rfl) ?_
              refine zz_aald hx hb hK hP (g_h1.2.2.1) rfl (by omega) (by omega) dX2_takeAll_80 (fun j22 q22 r22 => ?_)
              have hC0 := hC
              refine zz_callVv (As := [.ref (h1 + 15 + 1 * j22)]) (rest := []) ⟨hx, hb, hml, hown, hts⟩ hK hP hS (c_X1_take l E σb (h0 + 15 + 1 * j21) (h1 + 15 + 1 * j22) (g0.2.2.2.2.2.2.2.1 j21 r21) (g_h1.2.2.2.2.2.2.2.1 j22 r22) (by omega)) (cwV 1 hts gX2_takeAll_X1_take rfl rfl rfl (by decide +kernel) ⟨Nat.le_of_ble_eq_true rfl, Nat.le_of_ble_eq_true rfl⟩) ((g0.2.2.2.2.2.2.2.1 j21 r21)) rfl rfl hl.1 rfl (Nat.le_of_ble_eq_true rfl) dX2_takeAll_81 ⟨Nat.zero_le _, Nat.zero_le _⟩ (fun σ23 H locs q23 hP1 hS1 => ?_)
              replace hP := hP1
              replace hS := hS1
              clear hP1 hS1
              try dsimp only at q23
              obtain ⟨w23, f23⟩ := q23
              replace hC := hC.tr (w23.mono (by intro a k h; first | (dsimp only at h ⊢; omega) | omega | (dsimp only at h; omega) | (dsimp only; omega)))
              try simp only [t0, t1, t2, t3, t4, t5, t6, t7, t8, t9, t10, t11, t12, t13] at f23
              replace t0 : σ23 h0 0 = σ h1 0 := (w23 _ _ (by first | (dsimp only; omega) | omega)).trans t0
              replace t1 : σ23 h0 1 = σ h1 1 := (w23 _ _ (by first | (dsimp only; omega) | omega)).trans t1
              replace t2 : σ23 h0 2 = σ h1 2 := (w23 _ _ (by first | (dsimp only; omega) | omega)).trans t2
              replace t3 : σ23 h0 4 = σ h1 4 := (w23 _ _ (by first | (dsimp only; omega) | omega)).trans t3
              replace t4 : σ23 h0 6 = σ h0 6 := (w23 _ _ (by first | (dsimp only; omega) | omega)).trans t4
              replace t5 : σ23 h0 9 = σ h0 9 := (w23 _ _ (by first | (dsimp only; omega) | omega)).trans t5
              replace t6 : σ23 h0 11 = σ h0 11 := (w23 _ _ (by first | (dsimp only; omega) | omega)).trans t6
              replace t7 : σ23 h1 0 = σ h1 0 := (w23 _ _ (by first | (dsimp only; omega) | omega)).trans t7
              replace t8 : σ23 h1 1 = σ h1 1 := (w23 _ _ (by first | (dsimp only; omega) | omega)).trans t8
              replace t9 : σ23 h1 2 = σ h1 2 := (w23 _ _ (by first | (dsimp only; omega) | omega)).trans t9
              replace t10 : σ23 h1 4 = σ h1 4 := (w23 _ _ (by first | (dsimp only; omega) | omega)).trans t10
              replace t11 : σ23 h1 6 = σ h1 6 := (w23 _ _ (by first | (dsimp only; omega) | omega)).trans t11
              replace t12 : σ23 h1 9 = σ h1 9 := (w23 _ _ (by first | (dsimp only; omega) | omega)).trans t12
              replace t13 : σ23 h1 11 = σ h1 11 := (w23 _ _ (by first | (dsimp only; omega) | omega)).trans t13
              obtain ⟨n24, e24⟩ : ∃ y : Int32, y = ii + 1 := ⟨_, rfl⟩
              have f24 : n24.toInt = (ii).toInt + (1) := by have h9 := zz_addT e24 (by omega) (by omega); omega
              refine lv_iinc (v := n24) (lv' := [(2, .int n24), (0, .ref h0), (1, .ref h1)]) hx hb dX2_takeAll_84 hl (k := 0) rfl (by rw [e24]; rfl) (by decide) rfl (fun ls hl => ?_)
              refine lv_goto (tgt := 63) hx hb dX2_takeAll_87 (by decide) ?_
              exact ih63 n24 σ23 _ _ _ (by omega) hC (by omega) (by intro j hj hj2 f hf; exact if hq : (j : Int) = ii.toInt then (by rw [show j = j21 from by omega, f23 f hf, show j21 = j22 from by omega]; exact hC0 _ _ (by first | (dsimp only; omega) | omega)) else (by rw [w23 _ _ (by first | (dsimp only; omega) | omega)]; exact f63_1 j (by omega) hj2 f hf)) (by intro j hj f hf; rw [w23 _ _ (by first | (dsimp only; omega) | omega)]; exact f63_2 j hj f hf) t0 t1 t2 t3 t4 t5 t6 t7 t8 t9 t10 t11 t12 t13 hP hS (lv_sub hl [0, 1, 2] rfl)
        exact J63 _ 0 σ5 _ _ _ (Nat.lt_succ_self _) hC (by omega) (by intro j hj; omega) (by intro j hj f hf; rw [w5, zz_un (by omega)]; exact f26_1 j (by omega) hj f hf) t0 t1 t2 t3 t4 t5 t6 t7 t8 t9 t10 t11 t12 t13 hP hS (lv_sub hl [0, 1, 2] rfl)
      · have c4 := zz_nleT c4
        refine lv_aload_n hx hb dX2_takeAll_32 rfl (lv_at hl 1 rfl) ?_
        refine zz_getr hx hb hts hi2 hown hK hP (g0.1) rfl 3 (by decide) (hts (.fieldLink RX2 20 "NoonLaw$Realm" "dreams" "[LNoonLaw$Dream;") (List.mem_cons_of_mem _ bm_45)) rfl rfl dX2_takeAll_33 ?_
        refine lv_iload_n hx hb dX2_takeAll_36 rfl (lv_at hl 0 rfl) ?_
        refine zz_aald hx hb hK hP (g0.2.1) rfl (by omega) (by omega) dX2_takeAll_37 (fun j25 q25 r25 => ?_)
        refine lv_aload_n hx hb dX2_takeAll_38 rfl (lv_at hl 2 rfl) ?_
        refine zz_getr hx hb hts hi2 hown hK hP (g_h1.1) rfl 3 (by decide) (hts (.fieldLink RX2 20 "NoonLaw$Realm" "dreams" "[LNoonLaw$Dream;") (List.mem_cons_of_mem _ bm_45)) rfl rfl dX2_takeAll_39 ?_
        refine lv_iload_n hx hb dX2_takeAll_42 rfl (lv_at hl 0 rfl) ?_
        refine zz_aald hx hb hK hP (g_h1.2.1) rfl (by omega) (by omega) dX2_takeAll_43 (fun j26 q26 r26 => ?_)
        have hC0 := hC
        refine zz_callVv (As := [.ref (h1 + 6 + 1 * j26)]) (rest := []) ⟨hx, hb, hml, hown, hts⟩ hK hP hS (c_X0_take l E σa (h0 + 6 + 1 * j25) (h1 + 6 + 1 * j26) (g0.2.2.2.2.2.2.1 j25 r25) (g_h1.2.2.2.2.2.2.1 j26 r26) (by omega)) (cwV 1 hts gX2_takeAll_X0_take rfl rfl rfl (by decide +kernel) ⟨Nat.le_of_ble_eq_true rfl, Nat.le_of_ble_eq_true rfl⟩) ((g0.2.2.2.2.2.2.1 j25 r25)) rfl rfl hl.1 rfl (Nat.le_of_ble_eq_true rfl) dX2_takeAll_44 ⟨Nat.zero_le _, Nat.zero_le _⟩ (fun σ27 H locs q27 hP1 hS1 => ?_)
        replace hP := hP1
        replace hS := hS1
        clear hP1 hS1
        try dsimp only at q27
        obtain ⟨w27, f27⟩ := q27
        replace hC := hC.tr (w27.mono (by intro a k h; first | (dsimp only at h ⊢; omega) | omega | (dsimp only at h; omega) | (dsimp only; omega)))
        try simp only [t0, t1, t2, t3, t4, t5, t6, t7, t8, t9, t10, t11, t12, t13] at f27
        replace t0 : σ27 h0 0 = σ h1 0 := (w27 _ _ (by first | (dsimp only; omega) | omega)).trans t0
        replace t1 : σ27 h0 1 = σ h1 1 := (w27 _ _ (by first | (dsimp only; omega) | omega)).trans t1
        replace t2 : σ27 h0 2 = σ h1 2 := (w27 _ _ (by first | (dsimp only; omega) | omega)).trans t2
        replace t3 : σ27 h0 4 = σ h0 4 := (w27 _ _ (by first | (dsimp only; omega) | omega)).trans t3
        replace t4 : σ27 h0 6 = σ h0 6 := (w27 _ _ (by first | (dsimp only; omega) | omega)).trans t4
        replace t5 : σ27 h0 9 = σ h0 9 := (w27 _ _ (by first | (dsimp only; omega) | omega)).trans t5
        replace t6 : σ27 h0 11 = σ h0 11 := (w27 _ _ (by first | (dsimp only; omega) | omega)).trans t6
        replace t7 : σ27 h1 0 = σ h1 0 := (w27 _ _ (by first | (dsimp only; omega) | omega)).trans t7
        replace t8 : σ27 h1 1 = σ h1 1 := (w27 _ _ (by first | (dsimp only; omega) | omega)).trans t8
        replace t9 : σ27 h1 2 = σ h1 2 := (w27 _ _ (by first | (dsimp only; omega) | omega)).trans t9
        replace t10 : σ27 h1 4 = σ h1 4 := (w27 _ _ (by first | (dsimp only; omega) | omega)).trans t10
        replace t11 : σ27 h1 6 = σ h1 6 := (w27 _ _ (by first | (dsimp only; omega) | omega)).trans t11
        replace t12 : σ27 h1 9 = σ h1 9 := (w27 _ _ (by first | (dsimp only; omega) | omega)).trans t12
        replace t13 : σ27 h1 11 = σ h1 11 := (w27 _ _ (by first | (dsimp only; omega) | omega)).trans t13
        obtain ⟨n28, e28⟩ : ∃ y : Int32, y = ii + 1 := ⟨_, rfl⟩
        have f28 : n28.toInt = (ii).toInt + (1) := by have h9 := zz_addT e28 (by omega) (by omega); omega
        refine lv_iinc (v := n28) (lv' := [(2, .int n28), (0, .ref h0), (1, .ref h1)]) hx hb dX2_takeAll_47 hl (k := 0) rfl (by rw [e28]; rfl) (by decide) rfl (fun ls hl => ?_)
        refine lv_goto (tgt := 26) hx hb dX2_takeAll_50 (by decide) ?_
        exact ih26 n28 σ27 _ _ _ (by omega) hC (by omega) (by intro j hj hj2 f hf; exact if hq : (j : Int) = ii.toInt then (by rw [show j = j25 from by omega, f27 f hf, show j25 = j26 from by omega]; exact hC0 _ _ (by first | (dsimp only; omega) | omega)) else (by rw [w27 _ _ (by first | (dsimp only; omega) | omega)]; exact f26_1 j (by omega) hj2 f hf)) t0 t1 t2 t3 t4 t5 t6 t7 t8 t9 t10 t11 t12 t13 hP hS (lv_sub hl [0, 1, 2] rfl)
  exact J26 _ 0 σ3 _ _ _ (Nat.lt_succ_self _) hC (by omega) (by intro j hj; omega) t0 t1 t2 t3 t4 t5 t6 t7 t8 t9 t10 t11 t12 t13 hP hS (lv_sub hl [0, 1, 2] rfl)
