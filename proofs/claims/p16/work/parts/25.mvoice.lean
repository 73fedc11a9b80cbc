theorem dS25_1 (x0 : Nat) : ((x0) = x0 ∧ (18) = 18) ∨ (x0) = x0 + 12 := by omega
set_option maxHeartbeats 4000000 in
set_option maxRecDepth 100000 in
theorem c_X9_begins (l : Launch) (E : zz_E) (σ : zz_S) (h0 : Nat) (bd : Int32) (g0 : zz_M E h0) (htr : 0 ≤ (σ h0 18).toInt ∧ (σ h0 18).toInt ≤ 30) : Met l yX9_begins wzX9_begins ({ frames := 0, cells := 0, slots := 0, locals := 0 }) (va_Pc [.ref h0, .int bd] (zz_B E σ)) (va_Qv (fun σ1 => zz_ch (fun a k => (a = h0 ∧ k = 18) ∨ a = h0 + 12) σ σ1 ∧ ((0 ≤ (σ1 h0 18).toInt ∧ (σ1 h0 18).toInt ≤ 30) ∧ zz_tg σ σ1 (h0 + 12) h0 18 [bd.toInt])) (zz_B E) (zz_A E)) 0 0 (zz_A E) := by
  refine zz_met (cc := cX9_begins) (maxL := 2) (ret := none) (by decide) rfl (Nat.le_of_ble_eq_true rfl) ?_
  intro p e s m args below meth c ls hx hb hr hts hown hlocks hml hK hP hS hl
  have hl : lv_has ls 2 [(0, .ref h0), (1, .int bd)] := hl
  have hown : s.vm.findClass RX9 = some m.cls := hown
  have hi9 : ∀ w ∈ wsX90, w ∈ wzX9_begins := fun w h => List.mem_cons_of_mem _ (hbw9 w h)
  have k_1 : (1 : Int32).toInt = 1 := by decide +kernel
  have k_30 : (30 : Int32).toInt = 30 := by decide +kernel
  replace t0 : σ h0 18 = σ h0 18 := rfl
  have hC : zz_ch (fun a k => (a = h0 ∧ k = 18) ∨ a = h0 + 12) σ σ := zz_ch.rf σ
  refine lv_aload_n hx hb dX9_begins_0 rfl (lv_at hl 0 rfl) ?_
  refine zz_geti hx hb hts hi9 hown hK hP (g0.1) rfl 18 (by decide) (hts (.fieldLink RX9 217 "NoonLawModel" "traced" "I") (List.mem_cons_of_mem _ bm_827)) rfl rfl t0 dX9_begins_1 ?_
  refine lv_bipush (v := 30) hx hb dX9_begins_4 (by decide) ?_
  refine lv_icmp_ge (tgt := 29) hx hb dX9_begins_6 (by decide) (fun c1 => ?_) (fun c1 => ?_)
  · have c1 := zz_leT c1
    exact zz_vret hx hb hr hlocks hK hP hS dX9_begins_29 (by exact ⟨hC, by rw [t0]; omega, zz_tg.full (by omega)⟩)
  · have c1 := zz_nleT c1
    refine lv_aload_n hx hb dX9_begins_9 rfl (lv_at hl 0 rfl) ?_
    refine zz_getr hx hb hts hi9 hown hK hP (g0.1) rfl 17 (by decide) (hts (.fieldLink RX9 43 "NoonLawModel" "trace" "[I") (List.mem_cons_of_mem _ bm_104)) rfl rfl dX9_begins_10 ?_
    refine lv_aload_n hx hb dX9_begins_13 rfl (lv_at hl 0 rfl) ?_
    refine zz_geti hx hb hts hi9 hown hK hP (g0.1) rfl 18 (by decide) (hts (.fieldLink RX9 217 "NoonLawModel" "traced" "I") (List.mem_cons_of_mem _ bm_827)) rfl rfl t0 dX9_begins_14 ?_
    refine lv_iload_n hx hb dX9_begins_17 rfl (lv_at hl 1 rfl) ?_
    refine zz_iast hx hb hK hP hS (g0.2.2.2.2.2.2.2.2.2.2.2.2) (by omega) (by omega) dX9_begins_18 (fun j2 σ2 H locs q2 r2 w2 hP1 hS1 => ?_)
    replace hP := hP1
    replace hS := hS1
    clear hP1 hS1
    replace hC := hC.u w2 (by first | (dsimp only; omega) | omega | (dsimp only; done))
    replace t0 : σ2 h0 18 = σ h0 18 := (zz_w (b := h0) (j := 18) w2 (fun q9 => zz_na (a := h0) (i := 0) (j := 12) (by decide) q9.1)).trans t0
    refine lv_aload_n hx hb dX9_begins_19 rfl (lv_at hl 0 rfl) ?_
    refine lv_dup hx hb dX9_begins_20 rfl ?_
    refine zz_geti hx hb hts hi9 hown hK hP (g0.1) rfl 18 (by decide) (hts (.fieldLink RX9 217 "NoonLawModel" "traced" "I") (List.mem_cons_of_mem _ bm_827)) rfl rfl t0 dX9_begins_21 ?_
    refine lv_iconst (v := 1) hx hb dX9_begins_24 (by decide) ?_
    refine lv_iadd hx hb dX9_begins_25 ?_
    refine lv_topi (fun n3 e3 => ?_)
    have f3 : n3.toInt = (σ h0 18).toInt + (1 : Int32).toInt := zz_addT e3 (by omega) (by omega)
    refine zz_puti (v := n3) (ty := .int) hx hb hts hi9 tyX9 tyX9_ok nmX9 hown hK hP hS (g0.1) rfl 18 (by decide) (hts (.fieldLink RX9 217 "NoonLawModel" "traced" "I") (List.mem_cons_of_mem _ bm_827)) rfl rfl (by decide +kernel) rfl rfl rfl dX9_begins_26 (fun σ4 H locs w4 hP1 hS1 => ?_)
    replace hP := hP1
    replace hS := hS1
    clear hP1 hS1
    replace hC := hC.u w4 (dS25_1 h0)
    replace t0 : σ4 h0 18 = n3 := zz_w1 w4
    exact zz_vret hx hb hr hlocks hK hP hS dX9_begins_29 (by exact ⟨hC, by rw [t0]; omega, zz_tg.begin w2 w4 (by omega) (by omega) (by omega) (by omega)⟩)
theorem gX9_plainMutters_X9_begins : GoodIn wzX9_plainMutters (wsV RX9 220 RX9 yX9_begins wzX9_begins) := wz_co bm_838 (wz_co bm_839 (wz_co bm_840 (wz_co bm_5 (wz_in bm_841))))
theorem dS25_2 (x0 : Nat) : ∀ a k : Nat, ((a = (x0) ∧ k = 18) ∨ a = (x0) + 12) → ((a = x0 ∧ k = 18) ∨ a = x0 + 12) := by intro a k h; omega
set_option maxHeartbeats 4000000 in
set_option maxRecDepth 100000 in
theorem c_X9_plainMutters (l : Launch) (E : zz_E) (σ : zz_S) (h0 : Nat) (tt : Int32) (x1 : Int32) (g0 : zz_M E h0) (hx : 0 ≤ tt.toInt ∧ tt.toInt ≤ 8) (htr : 0 ≤ (σ h0 18).toInt ∧ (σ h0 18).toInt ≤ 30) (kd : Int) (md : Int32) (hkd : zz_DM σ (h0 + 1) tt.toInt.toNat 0 = kd) (hmd : σ (h0 + 1) (7 + 6 * tt.toInt.toNat + 1) = md) : Met l yX9_plainMutters wzX9_plainMutters ({ frames := 1, cells := 0, slots := 0, locals := 21 }) (va_Pc [.ref h0, .int tt, .int x1] (zz_B E σ)) (va_Qi (fun r σ1 => zz_ch (fun a k => (a = h0 ∧ k = 18) ∨ a = h0 + 12) σ σ1 ∧ ((0 ≤ (σ1 h0 18).toInt ∧ (σ1 h0 18).toInt ≤ 30) ∧ (r = ((x1 + tt, [10])).1 ∧ zz_tg σ σ1 (h0 + 12) h0 18 ((x1 + tt, [10])).2))) (zz_B E) (zz_A E)) 0 0 (zz_A E) := by
  refine zz_met (cc := cX9_plainMutters) (maxL := 3) (ret := (some .int)) (by decide) rfl (Nat.le_of_ble_eq_true rfl) ?_
  intro p e s m args below meth c ls hx hb hr hts hown hlocks hml hK hP hS hl
  have hl : lv_has ls 3 [(0, .ref h0), (1, .int tt), (2, .int x1)] := hl
  have hown : s.vm.findClass RX9 = some m.cls := hown
  have k_10 : (10 : Int32).toInt = 10 := by decide +kernel
  replace t0 : σ h0 18 = σ h0 18 := rfl
  have hC : zz_ch (fun a k => (a = h0 ∧ k = 18) ∨ a = h0 + 12) σ σ := zz_ch.rf σ
  refine lv_aload_n hx hb dX9_plainMutters_0 rfl (lv_at hl 0 rfl) ?_
  refine lv_bipush (v := 10) hx hb dX9_plainMutters_1 (by decide) ?_
  refine zz_callVv (As := [.int 10]) (rest := []) ⟨hx, hb, hml, hown, hts⟩ hK hP hS (c_X9_begins l E σ h0 10 g0 (by first | omega | (rw [t0]; omega))) (cwV 1 hts gX9_plainMutters_X9_begins rfl rfl rfl (by decide +kernel) ⟨Nat.le_of_ble_eq_true rfl, Nat.le_of_ble_eq_true rfl⟩) (g0.1) rfl rfl hl.1 rfl (Nat.le_of_ble_eq_true rfl) dX9_plainMutters_3 ⟨Nat.zero_le _, Nat.zero_le _⟩ (fun σ1 H locs q1 hP1 hS1 => ?_)
  replace hP := hP1
  replace hS := hS1
  clear hP1 hS1
  try dsimp only at q1
  obtain ⟨w1, f1⟩ := q1
  replace hC := hC.tr (w1.mono (dS25_2 h0))
  replace t0 : σ1 h0 18 = σ1 h0 18 := rfl
  refine lv_iload_n hx hb dX9_plainMutters_6 rfl (lv_at hl 2 rfl) ?_
  refine lv_iload_n hx hb dX9_plainMutters_7 rfl (lv_at hl 1 rfl) ?_
  refine lv_iadd hx hb dX9_plainMutters_8 ?_
  refine lv_topi (fun n2 e2 => ?_)
  exact zz_iret hx hb hr hlocks hK hP hS dX9_plainMutters_9 (by exact ⟨hC, by rw [t0]; omega, e2, f1.2⟩)
theorem gX9_nightmareMutters_X9_begins : GoodIn wzX9_nightmareMutters (wsV RX9 220 RX9 yX9_begins wzX9_begins) := wz_co bm_838 (wz_co bm_839 (wz_co bm_840 (wz_co bm_5 (wz_in bm_841))))
theorem gX9_nightmareMutters_X9_plainMutters : GoodIn wzX9_nightmareMutters (wsV RX9 223 RX9 yX9_plainMutters wzX9_plainMutters) := wz_co bm_842 (wz_co bm_843 (wz_co bm_844 (wz_co bm_5 (wz_in bm_845))))
set_option maxHeartbeats 4000000 in
set_option maxRecDepth 100000 in
theorem c_X9_nightmareMutters (l : Launch) (E : zz_E) (σ : zz_S) (h0 : Nat) (tt : Int32) (x1 : Int32) (g0 : zz_M E h0) (hx : 0 ≤ tt.toInt ∧ tt.toInt ≤ 8) (htr : 0 ≤ (σ h0 18).toInt ∧ (σ h0 18).toInt ≤ 30) (kd : Int) (md : Int32) (hkd : zz_DM σ (h0 + 1) tt.toInt.toNat 0 = kd) (hmd : σ (h0 + 1) (7 + 6 * tt.toInt.toNat + 1) = md) : Met l yX9_nightmareMutters wzX9_nightmareMutters ({ frames := 2, cells := 0, slots := 0, locals := 43 }) (va_Pc [.ref h0, .int tt, .int x1] (zz_B E σ)) (va_Qi (fun r σ1 => zz_ch (fun a k => (a = h0 ∧ k = 18) ∨ a = h0 + 12) σ σ1 ∧ ((0 ≤ (σ1 h0 18).toInt ∧ (σ1 h0 18).toInt ≤ 30) ∧ (r = ((x1 + tt - 4, [20, 10])).1 ∧ zz_tg σ σ1 (h0 + 12) h0 18 ((x1 + tt - 4, [20, 10])).2))) (zz_B E) (zz_A E)) 0 0 (zz_A E) := by
  refine zz_met (cc := cX9_nightmareMutters) (maxL := 3) (ret := (some .int)) (by decide) rfl (Nat.le_of_ble_eq_true rfl) ?_
  intro p e s m args below meth c ls hx hb hr hts hown hlocks hml hK hP hS hl
  have hl : lv_has ls 3 [(0, .ref h0), (1, .int tt), (2, .int x1)] := hl
  have hown : s.vm.findClass RX9 = some m.cls := hown
  have k_4 : (4 : Int32).toInt = 4 := by decide +kernel
  have k_20 : (20 : Int32).toInt = 20 := by decide +kernel
  replace t0 : σ h0 18 = σ h0 18 := rfl
  have hC : zz_ch (fun a k => (a = h0 ∧ k = 18) ∨ a = h0 + 12) σ σ := zz_ch.rf σ
  refine lv_aload_n hx hb dX9_nightmareMutters_0 rfl (lv_at hl 0 rfl) ?_
  refine lv_bipush (v := 20) hx hb dX9_nightmareMutters_1 (by decide) ?_
  refine zz_callVv (As := [.int 20]) (rest := []) ⟨hx, hb, hml, hown, hts⟩ hK hP hS (c_X9_begins l E σ h0 20 g0 (by first | omega | (rw [t0]; omega))) (cwV 1 hts gX9_nightmareMutters_X9_begins rfl rfl rfl (by decide +kernel) ⟨Nat.le_of_ble_eq_true rfl, Nat.le_of_ble_eq_true rfl⟩) (g0.1) rfl rfl hl.1 rfl (Nat.le_of_ble_eq_true rfl) dX9_nightmareMutters_3 ⟨Nat.zero_le _, Nat.zero_le _⟩ (fun σ1 H locs q1 hP1 hS1 => ?_)
  replace hP := hP1
  replace hS := hS1
  clear hP1 hS1
  try dsimp only at q1
  obtain ⟨w1, f1⟩ := q1
  replace hC := hC.tr (w1.mono (dS25_2 h0))
  replace t0 : σ1 h0 18 = σ1 h0 18 := rfl
  refine lv_aload_n hx hb dX9_nightmareMutters_6 rfl (lv_at hl 0 rfl) ?_
  refine lv_iload_n hx hb dX9_nightmareMutters_7 rfl (lv_at hl 1 rfl) ?_
  refine lv_iload_n hx hb dX9_nightmareMutters_8 rfl (lv_at hl 2 rfl) ?_
  refine zz_callVi (As := [.int tt, .int x1]) (rest := []) ⟨hx, hb, hml, hown, hts⟩ hK hP hS (c_X9_plainMutters l E σ1 h0 tt x1 g0 (by omega) (by first | omega | (rw [t0]; omega)) kd md (by rw [zz_DMk (a := h0 + 1) hC (by intro i h1 h2; first | (dsimp only; omega) | omega)]; exact hkd) (by rw [hC _ _ (by first | (dsimp only; omega) | omega)]; exact hmd)) (cwV 2 hts gX9_nightmareMutters_X9_plainMutters rfl rfl rfl (by decide +kernel) ⟨Nat.le_of_ble_eq_true rfl, Nat.le_of_ble_eq_true rfl⟩) (g0.1) rfl rfl hl.1 rfl (Nat.le_of_ble_eq_true rfl) dX9_nightmareMutters_9 ⟨Nat.zero_le _, Nat.zero_le _⟩ (fun r2 σ2 H locs q2 hP1 hS1 => ?_)
  replace hP := hP1
  replace hS := hS1
  clear hP1 hS1
  try dsimp only at q2
  obtain ⟨w2, f2⟩ := q2
  replace hC := hC.tr (w2.mono (dS25_2 h0))
  replace t0 : σ2 h0 18 = σ2 h0 18 := rfl
  refine lv_iconst (v := 4) hx hb dX9_nightmareMutters_12 (by decide) ?_
  refine lv_isub hx hb dX9_nightmareMutters_13 ?_
  refine lv_topi (fun n3 e3 => ?_)
  exact zz_iret hx hb hr hlocks hK hP hS dX9_nightmareMutters_14 (by exact ⟨hC, by rw [t0]; omega, by rw [e3, f2.2.1], f1.2.tr f2.2.2⟩)
theorem gX9_mutters_X9_of : GoodIn wzX9_mutters (wsV RX9 51 RX9 yX9_of wzX9_of) := wz_co bm_240 (wz_co bm_241 (wz_co bm_242 (wz_co bm_5 (wz_in bm_243))))
theorem gX9_mutters_X9_nightmareMutters : GoodIn wzX9_mutters (wsV RX9 226 RX9 yX9_nightmareMutters wzX9_nightmareMutters) := wz_co bm_834 (wz_co bm_835 (wz_co bm_836 (wz_co bm_5 (wz_in bm_837))))
theorem gX9_mutters_X9_begins : GoodIn wzX9_mutters (wsV RX9 220 RX9 yX9_begins wzX9_begins) := wz_co bm_838 (wz_co bm_839 (wz_co bm_840 (wz_co bm_5 (wz_in bm_841))))
theorem gX9_mutters_X9_plainMutters : GoodIn wzX9_mutters (wsV RX9 223 RX9 yX9_plainMutters wzX9_plainMutters) := wz_co bm_842 (wz_co bm_843 (wz_co bm_844 (wz_co bm_5 (wz_in bm_845))))
set_option maxHeartbeats 4000000 in
set_option maxRecDepth 100000 in
theorem c_X9_mutters (l : Launch) (E : zz_E) (σ : zz_S) (h0 : Nat) (tt : Int32) (x1 : Int32) (g0 : zz_M E h0) (hx : 0 ≤ tt.toInt ∧ tt.toInt ≤ 8) (htr : 0 ≤ (σ h0 18).toInt ∧ (σ h0 18).toInt ≤ 30) (kd : Int) (md : Int32) (hkd : zz_DM σ (h0 + 1) tt.toInt.toNat 0 = kd) (hmd : σ (h0 + 1) (7 + 6 * tt.toInt.toNat + 1) = md) : Met l yX9_mutters wzX9_mutters ({ frames := 3, cells := 0, slots := 0, locals := 65 }) (va_Pc [.ref h0, .int tt, .int x1] (zz_B E σ)) (va_Qi (fun r σ1 => zz_ch (fun a k => (a = h0 ∧ k = 18) ∨ a = h0 + 12) σ σ1 ∧ ((0 ≤ (σ1 h0 18).toInt ∧ (σ1 h0 18).toInt ≤ 30) ∧ (r = (zz_mu kd tt x1).1 ∧ zz_tg σ σ1 (h0 + 12) h0 18 (zz_mu kd tt x1).2))) (zz_B E) (zz_A E)) 0 0 (zz_A E) := by
  refine zz_met (cc := cX9_mutters) (maxL := 3) (ret := (some .int)) (by decide) rfl (Nat.le_of_ble_eq_true rfl) ?_
  intro p e s m args below meth c ls hx hb hr hts hown hlocks hml hK hP hS hl
  have hl : lv_has ls 3 [(0, .ref h0), (1, .int tt), (2, .int x1)] := hl
  have hown : s.vm.findClass RX9 = some m.cls := hown
  have k_0 : (0 : Int32).toInt = 0 := by decide +kernel
  have k_3 : (3 : Int32).toInt = 3 := by decide +kernel
  have k_9 : (9 : Int32).toInt = 9 := by decide +kernel
  have k_50 : (50 : Int32).toInt = 50 := by decide +kernel
  have k_70 : (70 : Int32).toInt = 70 := by decide +kernel
  replace t0 : σ h0 18 = σ h0 18 := rfl
  have hC : zz_ch (fun a k => (a = h0 ∧ k = 18) ∨ a = h0 + 12) σ σ := zz_ch.rf σ
  refine lv_aload_n hx hb dX9_mutters_0 rfl (lv_at hl 0 rfl) ?_
  refine lv_iload_n hx hb dX9_mutters_1 rfl (lv_at hl 1 rfl) ?_
  refine lv_iconst (v := 0) hx hb dX9_mutters_2 (by decide) ?_
  refine zz_callVp (As := [.int tt, .int 0]) (rest := []) ⟨hx, hb, hml, hown, hts⟩ hK hP hS (c_X9_of l E σ h0 tt 0 g0 (by omega)) (cwV 2 hts gX9_mutters_X9_of rfl rfl rfl (by decide +kernel) ⟨Nat.le_of_ble_eq_true rfl, Nat.le_of_ble_eq_true rfl⟩) (g0.1) rfl rfl hl.1 rfl (Nat.le_of_ble_eq_true rfl) dX9_mutters_3 ⟨Nat.zero_le _, Nat.zero_le _⟩ (fun r1 H locs f1 hP1 hS1 => ?_)
  replace hP := hP1
  replace hS := hS1
  clear hP1 hS1
  have hk9 : (r1).toInt = kd := by rw [← hkd, zz_DM.at (by omega) (by decide), f1]; exact congrArg (fun q => (σ (h0 + 1) q).toInt) (by omega)
  by_cases c2 : (r1).toInt = 1
  · refine lv_lookup (off := 34) (tgt := 40) hx hb dX9_mutters_6 (by decide) (by rw [c2]; decide) (by decide) ?_
    refine lv_aload_n hx hb dX9_mutters_40 rfl (lv_at hl 0 rfl) ?_
    refine lv_iload_n hx hb dX9_mutters_41 rfl (lv_at hl 1 rfl) ?_
    refine lv_iload_n hx hb dX9_mutters_42 rfl (lv_at hl 2 rfl) ?_
    refine zz_callVi (As := [.int tt, .int x1]) (rest := []) ⟨hx, hb, hml, hown, hts⟩ hK hP hS (c_X9_nightmareMutters l E σ h0 tt x1 g0 (by omega) (by first | omega | (rw [t0]; omega)) kd md (by exact hkd) (by exact hmd)) (cwV 2 hts gX9_mutters_X9_nightmareMutters rfl rfl rfl (by decide +kernel) ⟨Nat.le_of_ble_eq_true rfl, Nat.le_of_ble_eq_true rfl⟩) (g0.1) rfl rfl hl.1 rfl (Nat.le_of_ble_eq_true rfl) dX9_mutters_43 ⟨Nat.zero_le _, Nat.zero_le _⟩ (fun r3 σ3 H locs q3 hP1 hS1 => ?_)
    replace hP := hP1
    replace hS := hS1
    clear hP1 hS1
    try dsimp only at q3
    obtain ⟨w3, f3⟩ := q3
    replace hC := hC.tr (w3.mono (dS25_2 h0))
    replace t0 : σ3 h0 18 = σ3 h0 18 := rfl
    exact zz_iret hx hb hr hlocks hK hP hS dX9_mutters_46 (by exact ⟨hC, by rw [t0]; omega, by unfold zz_mu; rw [if_pos (by omega)]; exact f3.2⟩)
  by_cases c4 : (r1).toInt = 4
  · refine lv_lookup (off := 41) (tgt := 47) hx hb dX9_mutters_6 (by decide) (by rw [c4]; decide) (by decide) ?_
    refine lv_aload_n hx hb dX9_mutters_47 rfl (lv_at hl 0 rfl) ?_
    refine lv_bipush (v := 50) hx hb dX9_mutters_48 (by decide) ?_
    refine zz_callVv (As := [.int 50]) (rest := []) ⟨hx, hb, hml, hown, hts⟩ hK hP hS (c_X9_begins l E σ h0 50 g0 (by first | omega | (rw [t0]; omega))) (cwV 1 hts gX9_mutters_X9_begins rfl rfl rfl (by decide +kernel) ⟨Nat.le_of_ble_eq_true rfl, Nat.le_of_ble_eq_true rfl⟩) (g0.1) rfl rfl hl.1 rfl (Nat.le_of_ble_eq_true rfl) dX9_mutters_50 ⟨Nat.zero_le _, Nat.zero_le _⟩ (fun σ5 H locs q5 hP1 hS1 => ?_)
    replace hP := hP1
    replace hS := hS1
    clear hP1 hS1
    try dsimp only at q5
    obtain ⟨w5, f5⟩ := q5
    replace hC := hC.tr (w5.mono (dS25_2 h0))
    replace t0 : σ5 h0 18 = σ5 h0 18 := rfl
    refine lv_aload_n hx hb dX9_mutters_53 rfl (lv_at hl 0 rfl) ?_
    refine lv_iload_n hx hb dX9_mutters_54 rfl (lv_at hl 1 rfl) ?_
    refine lv_iload_n hx hb dX9_mutters_55 rfl (lv_at hl 2 rfl) ?_
    refine zz_callVi (As := [.int tt, .int x1]) (rest := []) ⟨hx, hb, hml, hown, hts⟩ hK hP hS (c_X9_nightmareMutters l E σ5 h0 tt x1 g0 (by omega) (by first | omega | (rw [t0]; omega)) kd md (by rw [zz_DMk (a := h0 + 1) hC (by intro i h1 h2; first | (dsimp only; omega) | omega)]; exact hkd) (by rw [hC _ _ (by first | (dsimp only; omega) | omega)]; exact hmd)) (cwV 2 hts gX9_mutters_X9_nightmareMutters rfl rfl rfl (by decide +kernel) ⟨Nat.le_of_ble_eq_true rfl, Nat.le_of_ble_eq_true rfl⟩) (g0.1) rfl rfl hl.1 rfl (Nat.le_of_ble_eq_true rfl) dX9_mutters_56 ⟨Nat.zero_le _, Nat.zero_le _⟩ (fun r6 σ6 H locs q6 hP1 hS1 => ?_)
    replace hP := hP1
    replace hS := hS1
    clear hP1 hS1
    try dsimp only at q6
    obtain ⟨w6, f6⟩ := q6
    replace hC := hC.tr (w6.mono (dS25_2 h0))
    replace t0 : σ6 h0 18 = σ6 h0 18 := rfl
    refine lv_iconst (v := 3) hx hb dX9_mutters_59 (by decide) ?_
    refine lv_imul hx hb dX9_mutters_60 ?_
    refine lv_topi (fun n7 e7 => ?_)
    exact zz_iret hx hb hr hlocks hK hP hS dX9_mutters_61 (by exact ⟨hC, by rw [t0]; omega, by unfold zz_mu; rw [if_neg (by omega), if_pos (by omega)]; exact ⟨by rw [e7, f6.2.1], f5.2.tr f6.2.2⟩⟩)
  by_cases c8 : (r1).toInt = 6
  · refine lv_lookup (off := 56) (tgt := 62) hx hb dX9_mutters_6 (by decide) (by rw [c8]; decide) (by decide) ?_
    refine lv_aload_n hx hb dX9_mutters_62 rfl (lv_at hl 0 rfl) ?_
    refine lv_bipush (v := 70) hx hb dX9_mutters_63 (by decide) ?_
    refine zz_callVv (As := [.int 70]) (rest := []) ⟨hx, hb, hml, hown, hts⟩ hK hP hS (c_X9_begins l E σ h0 70 g0 (by first | omega | (rw [t0]; omega))) (cwV 1 hts gX9_mutters_X9_begins rfl rfl rfl (by decide +kernel) ⟨Nat.le_of_ble_eq_true rfl, Nat.le_of_ble_eq_true rfl⟩) (g0.1) rfl rfl hl.1 rfl (Nat.le_of_ble_eq_true rfl) dX9_mutters_65 ⟨Nat.zero_le _, Nat.zero_le _⟩ (fun σ9 H locs q9 hP1 hS1 => ?_)
    replace hP := hP1
    replace hS := hS1
    clear hP1 hS1
    try dsimp only at q9
    obtain ⟨w9, f9⟩ := q9
    replace hC := hC.tr (w9.mono (dS25_2 h0))
    replace t0 : σ9 h0 18 = σ9 h0 18 := rfl
    refine lv_bipush (v := 9) hx hb dX9_mutters_68 (by decide) ?_
    exact zz_iret hx hb hr hlocks hK hP hS dX9_mutters_70 (by exact ⟨hC, by rw [t0]; omega, by unfold zz_mu; rw [if_neg (by omega), if_neg (by omega), if_pos (by omega)]; exact ⟨rfl, f9.2⟩⟩)
  refine lv_lookup (off := 65) (tgt := 71) hx hb dX9_mutters_6 (by decide) (by rw [Op.lookupswitch.offset_cons, if_neg (by omega)]; rw [Op.lookupswitch.offset_cons, if_neg (by omega)]; rw [Op.lookupswitch.offset_cons, if_neg (by omega)]; rfl) (by decide) ?_
  refine lv_aload_n hx hb dX9_mutters_71 rfl (lv_at hl 0 rfl) ?_
  refine lv_iload_n hx hb dX9_mutters_72 rfl (lv_at hl 1 rfl) ?_
  refine lv_iload_n hx hb dX9_mutters_73 rfl (lv_at hl 2 rfl) ?_
  refine zz_callVi (As := [.int tt, .int x1]) (rest := []) ⟨hx, hb, hml, hown, hts⟩ hK hP hS (c_X9_plainMutters l E σ h0 tt x1 g0 (by omega) (by first | omega | (rw [t0]; omega)) kd md (by exact hkd) (by exact hmd)) (cwV 2 hts gX9_mutters_X9_plainMutters rfl rfl rfl (by decide +kernel) ⟨Nat.le_of_ble_eq_true rfl, Nat.le_of_ble_eq_true rfl⟩) (g0.1) rfl rfl hl.1 rfl (Nat.le_of_ble_eq_true rfl) dX9_mutters_74 ⟨Nat.zero_le _, Nat.zero_le _⟩ (fun r10 σ10 H locs q10 hP1 hS1 => ?_)
  replace hP := hP1
  replace hS := hS1
  clear hP1 hS1
  try dsimp only at q10
  obtain ⟨w10, f10⟩ := q10
  replace hC := hC.tr (w10.mono (dS25_2 h0))
  replace t0 : σ10 h0 18 = σ10 h0 18 := rfl
  exact zz_iret hx hb hr hlocks hK hP hS dX9_mutters_77 (by exact ⟨hC, by rw [t0]; omega, by unfold zz_mu; rw [if_neg (by omega), if_neg (by omega), if_neg (by omega)]; exact f10.2⟩)
theorem gX9_plainSighs_X9_begins : GoodIn wzX9_plainSighs (wsV RX9 220 RX9 yX9_begins wzX9_begins) := wz_co bm_838 (wz_co bm_839 (wz_co bm_840 (wz_co bm_5 (wz_in bm_841))))
theorem gX9_plainSighs_X9_mutters : GoodIn wzX9_plainSighs (wsV RX9 229 RX9 yX9_mutters wzX9_mutters) := wz_co bm_830 (wz_co bm_831 (wz_co bm_832 (wz_co bm_5 (wz_in bm_833))))
set_option maxHeartbeats 4000000 in
set_option maxRecDepth 100000 in
theorem c_X9_plainSighs (l : Launch) (E : zz_E) (σ : zz_S) (h0 : Nat) (tt : Int32) (x1 : Int32) (g0 : zz_M E h0) (hx : 0 ≤ tt.toInt ∧ tt.toInt ≤ 8) (htr : 0 ≤ (σ h0 18).toInt ∧ (σ h0 18).toInt ≤ 30) (kd : Int) (md : Int32) (hkd : zz_DM σ (h0 + 1) tt.toInt.toNat 0 = kd) (hmd : σ (h0 + 1) (7 + 6 * tt.toInt.toNat + 1) = md) : Met l yX9_plainSighs wzX9_plainSighs ({ frames := 4, cells := 0, slots := 0, locals := 87 }) (va_Pc [.ref h0, .int tt, .int x1] (zz_B E σ)) (va_Qi (fun r σ1 => zz_ch (fun a k => (a = h0 ∧ k = 18) ∨ a = h0 + 12) σ σ1 ∧ ((0 ≤ (σ1 h0 18).toInt ∧ (σ1 h0 18).toInt ≤ 30) ∧ (r = (zz_sp kd tt x1).1 ∧ zz_tg σ σ1 (h0 + 12) h0 18 (zz_sp kd tt x1).2))) (zz_B E) (zz_A E)) 0 0 (zz_A E) := by
  refine zz_met (cc := cX9_plainSighs) (maxL := 3) (ret := (some .int)) (by decide) rfl (Nat.le_of_ble_eq_true rfl) ?_
  intro p e s m args below meth c ls hx hb hr hts hown hlocks hml hK hP hS hl
  have hl : lv_has ls 3 [(0, .ref h0), (1, .int tt), (2, .int x1)] := hl
  have hown : s.vm.findClass RX9 = some m.cls := hown
  have k_2 : (2 : Int32).toInt = 2 := by decide +kernel
  have k_11 : (11 : Int32).toInt = 11 := by decide +kernel
  replace t0 : σ h0 18 = σ h0 18 := rfl
  have hC : zz_ch (fun a k => (a = h0 ∧ k = 18) ∨ a = h0 + 12) σ σ := zz_ch.rf σ
  refine lv_aload_n hx hb dX9_plainSighs_0 rfl (lv_at hl 0 rfl) ?_
  refine lv_bipush (v := 11) hx hb dX9_plainSighs_1 (by decide) ?_
  refine zz_callVv (As := [.int 11]) (rest := []) ⟨hx, hb, hml, hown, hts⟩ hK hP hS (c_X9_begins l E σ h0 11 g0 (by first | omega | (rw [t0]; omega))) (cwV 1 hts gX9_plainSighs_X9_begins rfl rfl rfl (by decide +kernel) ⟨Nat.le_of_ble_eq_true rfl, Nat.le_of_ble_eq_true rfl⟩) (g0.1) rfl rfl hl.1 rfl (Nat.le_of_ble_eq_true rfl) dX9_plainSighs_3 ⟨Nat.zero_le _, Nat.zero_le _⟩ (fun σ1 H locs q1 hP1 hS1 => ?_)
  replace hP := hP1
  replace hS := hS1
  clear hP1 hS1
  try dsimp only at q1
  obtain ⟨w1, f1⟩ := q1
  replace hC := hC.tr (w1.mono (dS25_2 h0))
  replace t0 : σ1 h0 18 = σ1 h0 18 := rfl
  refine lv_aload_n hx hb dX9_plainSighs_6 rfl (lv_at hl 0 rfl) ?_
  refine lv_iload_n hx hb dX9_plainSighs_7 rfl (lv_at hl 1 rfl) ?_
  refine lv_iload_n hx hb dX9_plainSighs_8 rfl (lv_at hl 2 rfl) ?_
  refine zz_callVi (As := [.int tt, .int x1]) (rest := []) ⟨hx, hb, hml, hown, hts⟩ hK hP hS (c_X9_mutters l E σ1 h0 tt x1 g0 (by omega) (by first | omega | (rw [t0]; omega)) kd md (by rw [zz_DMk (a := h0 + 1) hC (by intro i h1 h2; first | (dsimp only; omega) | omega)]; exact hkd) (by rw [hC _ _ (by first | (dsimp only; omega) | omega)]; exact hmd)) (cwV 2 hts gX9_plainSighs_X9_mutters rfl rfl rfl (by decide +kernel) ⟨Nat.le_of_ble_eq_true rfl, Nat.le_of_ble_eq_true rfl⟩) (g0.1) rfl rfl hl.1 rfl (Nat.le_of_ble_eq_true rfl) dX9_plainSighs_9 ⟨Nat.zero_le _, Nat.zero_le _⟩ (fun r2 σ2 H locs q2 hP1 hS1 => ?_)
  replace hP := hP1
  replace hS := hS1
  clear hP1 hS1
  try dsimp only at q2
  obtain ⟨w2, f2⟩ := q2
  replace hC := hC.tr (w2.mono (dS25_2 h0))
  replace t0 : σ2 h0 18 = σ2 h0 18 := rfl
  refine lv_iconst (v := 2) hx hb dX9_plainSighs_12 (by decide) ?_
  refine lv_imul hx hb dX9_plainSighs_13 ?_
  refine lv_topi (fun n3 e3 => ?_)
  exact zz_iret hx hb hr hlocks hK hP hS dX9_plainSighs_14 (by exact ⟨hC, by rw [t0]; omega, by rw [e3, f2.2.1]; rfl, f1.2.tr f2.2.2⟩)
theorem gX9_napSighs_X9_begins : GoodIn wzX9_napSighs (wsV RX9 220 RX9 yX9_begins wzX9_begins) := wz_co bm_838 (wz_co bm_839 (wz_co bm_840 (wz_co bm_5 (wz_in bm_841))))
theorem gX9_napSighs_X9_plainSighs : GoodIn wzX9_napSighs (wsV RX9 232 RX9 yX9_plainSighs wzX9_plainSighs) := wz_co bm_854 (wz_co bm_855 (wz_co bm_856 (wz_co bm_5 (wz_in bm_857))))
set_option maxHeartbeats 4000000 in
set_option maxRecDepth 100000 in
theorem c_X9_napSighs (l : Launch) (E : zz_E) (σ : zz_S) (h0 : Nat) (tt : Int32) (x1 : Int32) (g0 : zz_M E h0) (hx : 0 ≤ tt.toInt ∧ tt.toInt ≤ 8) (htr : 0 ≤ (σ h0 18).toInt ∧ (σ h0 18).toInt ≤ 30) (kd : Int) (md : Int32) (hkd : zz_DM σ (h0 + 1) tt.toInt.toNat 0 = kd) (hmd : σ (h0 + 1) (7 + 6 * tt.toInt.toNat + 1) = md) : Met l yX9_napSighs wzX9_napSighs ({ frames := 5, cells := 0, slots := 0, locals := 109 }) (va_Pc [.ref h0, .int tt, .int x1] (zz_B E σ)) (va_Qi (fun r σ1 => zz_ch (fun a k => (a = h0 ∧ k = 18) ∨ a = h0 + 12) σ σ1 ∧ ((0 ≤ (σ1 h0 18).toInt ∧ (σ1 h0 18).toInt ≤ 30) ∧ (r = ((-(zz_sp kd tt x1).1, 30 :: (zz_sp kd tt x1).2)).1 ∧ zz_tg σ σ1 (h0 + 12) h0 18 ((-(zz_sp kd tt x1).1, 30 :: (zz_sp kd tt x1).2)).2))) (zz_B E) (zz_A E)) 0 0 (zz_A E) := by
  refine zz_met (cc := cX9_napSighs) (maxL := 3) (ret := (some .int)) (by decide) rfl (Nat.le_of_ble_eq_true rfl) ?_
  intro p e s m args below meth c ls hx hb hr hts hown hlocks hml hK hP hS hl
  have hl : lv_has ls 3 [(0, .ref h0), (1, .int tt), (2, .int x1)] := hl
  have hown : s.vm.findClass RX9 = some m.cls := hown
  have k_30 : (30 : Int32).toInt = 30 := by decide +kernel
  replace t0 : σ h0 18 = σ h0 18 := rfl
  have hC : zz_ch (fun a k => (a = h0 ∧ k = 18) ∨ a = h0 + 12) σ σ := zz_ch.rf σ
  refine lv_aload_n hx hb dX9_napSighs_0 rfl (lv_at hl 0 rfl) ?_
  refine lv_bipush (v := 30) hx hb dX9_napSighs_1 (by decide) ?_
  refine zz_callVv (As := [.int 30]) (rest := []) ⟨hx, hb, hml, hown, hts⟩ hK hP hS (c_X9_begins l E σ h0 30 g0 (by first | omega | (rw [t0]; omega))) (cwV 1 hts gX9_napSighs_X9_begins rfl rfl rfl (by decide +kernel) ⟨Nat.le_of_ble_eq_true rfl, Nat.le_of_ble_eq_true rfl⟩) (g0.1) rfl rfl hl.1 rfl (Nat.le_of_ble_eq_true rfl) dX9_napSighs_3 ⟨Nat.zero_le _, Nat.zero_le _⟩ (fun σ1 H locs q1 hP1 hS1 => ?_)
  replace hP := hP1
  replace hS := hS1
  clear hP1 hS1
  try dsimp only at q1
  obtain ⟨w1, f1⟩ := q1
  replace hC := hC.tr (w1.mono (dS25_2 h0))
  replace t0 : σ1 h0 18 = σ1 h0 18 := rfl
  refine lv_aload_n hx hb dX9_napSighs_6 rfl (lv_at hl 0 rfl) ?_
  refine lv_iload_n hx hb dX9_napSighs_7 rfl (lv_at hl 1 rfl) ?_
  refine lv_iload_n hx hb dX9_napSighs_8 rfl (lv_at hl 2 rfl) ?_
  refine zz_callVi (As := [.int tt, .int x1]) (rest := []) ⟨hx, hb, hml, hown, hts⟩ hK hP hS (c_X9_plainSighs l E σ1 h0 tt x1 g0 (by omega) (by first | omega | (rw [t0]; omega)) kd md (by rw [zz_DMk (a := h0 + 1) hC (by intro i h1 h2; first | (dsimp only; omega) | omega)]; exact hkd) (by rw [hC _ _ (by first | (dsimp only; omega) | omega)]; exact hmd)) (cwV 2 hts gX9_napSighs_X9_plainSighs rfl rfl rfl (by decide +kernel) ⟨Nat.le_of_ble_eq_true rfl, Nat.le_of_ble_eq_true rfl⟩) (g0.1) rfl rfl hl.1 rfl (Nat.le_of_ble_eq_true rfl) dX9_napSighs_9 ⟨Nat.zero_le _, Nat.zero_le _⟩ (fun r2 σ2 H locs q2 hP1 hS1 => ?_)
  replace hP := hP1
  replace hS := hS1
  clear hP1 hS1
  try dsimp only at q2
  obtain ⟨w2, f2⟩ := q2
  replace hC := hC.tr (w2.mono (dS25_2 h0))
  replace t0 : σ2 h0 18 = σ2 h0 18 := rfl
  refine lv_ineg hx hb dX9_napSighs_12 ?_
  refine lv_topi (fun n3 e3 => ?_)
  exact zz_iret hx hb hr hlocks hK hP hS dX9_napSighs_13 (by exact ⟨hC, by rw [t0]; omega, by rw [e3, f2.2.1], f1.2.tr f2.2.2⟩)
theorem gX9_sighs_X9_of : GoodIn wzX9_sighs (wsV RX9 51 RX9 yX9_of wzX9_of) := wz_co bm_240 (wz_co bm_241 (wz_co bm_242 (wz_co bm_5 (wz_in bm_243))))
theorem gX9_sighs_X9_napSighs : GoodIn wzX9_sighs (wsV RX9 235 RX9 yX9_napSighs wzX9_napSighs) := wz_co bm_850 (wz_co bm_851 (wz_co bm_852 (wz_co bm_5 (wz_in bm_853))))
theorem gX9_sighs_X9_begins : GoodIn wzX9_sighs (wsV RX9 220 RX9 yX9_begins wzX9_begins) := wz_co bm_838 (wz_co bm_839 (wz_co bm_840 (wz_co bm_5 (wz_in bm_841))))
theorem gX9_sighs_X9_plainSighs : GoodIn wzX9_sighs (wsV RX9 232 RX9 yX9_plainSighs wzX9_plainSighs) := wz_co bm_854 (wz_co bm_855 (wz_co bm_856 (wz_co bm_5 (wz_in bm_857))))
set_option maxHeartbeats 4000000 in
set_option maxRecDepth 100000 in
theorem c_X9_sighs (l : Launch) (E : zz_E) (σ : zz_S) (h0 : Nat) (tt : Int32) (x1 : Int32) (g0 : zz_M E h0) (hx : 0 ≤ tt.toInt ∧ tt.toInt ≤ 8) (htr : 0 ≤ (σ h0 18).toInt ∧ (σ h0 18).toInt ≤ 30) (kd : Int) (md : Int32) (hkd : zz_DM σ (h0 + 1) tt.toInt.toNat 0 = kd) (hmd : σ (h0 + 1) (7 + 6 * tt.toInt.toNat + 1) = md) : Met l yX9_sighs wzX9_sighs ({ frames := 6, cells := 0, slots := 0, locals := 131 }) (va_Pc [.ref h0, .int tt, .int x1] (zz_B E σ)) (va_Qi (fun r σ1 => zz_ch (fun a k => (a = h0 ∧ k = 18) ∨ a = h0 + 12) σ σ1 ∧ ((0 ≤ (σ1 h0 18).toInt ∧ (σ1 h0 18).toInt ≤ 30) ∧ (r = (zz_si kd md tt x1).1 ∧ zz_tg σ σ1 (h0 + 12) h0 18 (zz_si kd md tt x1).2))) (zz_B E) (zz_A E)) 0 0 (zz_A E) := by
  refine zz_met (cc := cX9_sighs) (maxL := 3) (ret := (some .int)) (by decide) rfl (Nat.le_of_ble_eq_true rfl) ?_
  intro p e s m args below meth c ls hx hb hr hts hown hlocks hml hK hP hS hl
  have hl : lv_has ls 3 [(0, .ref h0), (1, .int tt), (2, .int x1)] := hl
  have hown : s.vm.findClass RX9 = some m.cls := hown
  have k_0 : (0 : Int32).toInt = 0 := by decide +kernel
  have k_1 : (1 : Int32).toInt = 1 := by decide +kernel
  have k_60 : (60 : Int32).toInt = 60 := by decide +kernel
  have k_71 : (71 : Int32).toInt = 71 := by decide +kernel
  replace t0 : σ h0 18 = σ h0 18 := rfl
  have hC : zz_ch (fun a k => (a = h0 ∧ k = 18) ∨ a = h0 + 12) σ σ := zz_ch.rf σ
  refine lv_aload_n hx hb dX9_sighs_0 rfl (lv_at hl 0 rfl) ?_
  refine lv_iload_n hx hb dX9_sighs_1 rfl (lv_at hl 1 rfl) ?_
  refine lv_iconst (v := 0) hx hb dX9_sighs_2 (by decide) ?_
  refine zz_callVp (As := [.int tt, .int 0]) (rest := []) ⟨hx, hb, hml, hown, hts⟩ hK hP hS (c_X9_of l E σ h0 tt 0 g0 (by omega)) (cwV 2 hts gX9_sighs_X9_of rfl rfl rfl (by decide +kernel) ⟨Nat.le_of_ble_eq_true rfl, Nat.le_of_ble_eq_true rfl⟩) (g0.1) rfl rfl hl.1 rfl (Nat.le_of_ble_eq_true rfl) dX9_sighs_3 ⟨Nat.zero_le _, Nat.zero_le _⟩ (fun r1 H locs f1 hP1 hS1 => ?_)
  replace hP := hP1
  replace hS := hS1
  clear hP1 hS1
  have hk9 : (r1).toInt = kd := by rw [← hkd, zz_DM.at (by omega) (by decide), f1]; exact congrArg (fun q => (σ (h0 + 1) q).toInt) (by omega)
  by_cases c2 : (r1).toInt = 2
  · refine lv_tableIn (off := 34) (tgt := 40) hx hb dX9_sighs_6 (by omega) (by omega) (by rw [show ((r1).toInt - (2)).toNat = 0 from by omega]; rfl) (by decide) ?_
    refine lv_aload_n hx hb dX9_sighs_40 rfl (lv_at hl 0 rfl) ?_
    refine lv_iload_n hx hb dX9_sighs_41 rfl (lv_at hl 1 rfl) ?_
    refine lv_iload_n hx hb dX9_sighs_42 rfl (lv_at hl 2 rfl) ?_
    refine zz_callVi (As := [.int tt, .int x1]) (rest := []) ⟨hx, hb, hml, hown, hts⟩ hK hP hS (c_X9_napSighs l E σ h0 tt x1 g0 (by omega) (by first | omega | (rw [t0]; omega)) kd md (by exact hkd) (by exact hmd)) (cwV 2 hts gX9_sighs_X9_napSighs rfl rfl rfl (by decide +kernel) ⟨Nat.le_of_ble_eq_true rfl, Nat.le_of_ble_eq_true rfl⟩) (g0.1) rfl rfl hl.1 rfl (Nat.le_of_ble_eq_true rfl) dX9_sighs_43 ⟨Nat.zero_le _, Nat.zero_le _⟩ (fun r3 σ3 H locs q3 hP1 hS1 => ?_)
    replace hP := hP1
    replace hS := hS1
    clear hP1 hS1
    try dsimp only at q3
    obtain ⟨w3, f3⟩ := q3
    replace hC := hC.tr (w3.mono (dS25_2 h0))
    replace t0 : σ3 h0 18 = σ3 h0 18 := rfl
    exact zz_iret hx hb hr hlocks hK hP hS dX9_sighs_46 (by exact ⟨hC, by rw [t0]; omega, by unfold zz_si; rw [if_pos (by omega)]; exact f3.2⟩)
  by_cases c4 : (r1).toInt = 5
  · refine lv_tableIn (off := 41) (tgt := 47) hx hb dX9_sighs_6 (by omega) (by omega) (by rw [show ((r1).toInt - (2)).toNat = 3 from by omega]; rfl) (by decide) ?_
    refine lv_aload_n hx hb dX9_sighs_47 rfl (lv_at hl 0 rfl) ?_
    refine lv_bipush (v := 60) hx hb dX9_sighs_48 (by decide) ?_
    refine zz_callVv (As := [.int 60]) (rest := []) ⟨hx, hb, hml, hown, hts⟩ hK hP hS (c_X9_begins l E σ h0 60 g0 (by first | omega | (rw [t0]; omega))) (cwV 1 hts gX9_sighs_X9_begins rfl rfl rfl (by decide +kernel) ⟨Nat.le_of_ble_eq_true rfl, Nat.le_of_ble_eq_true rfl⟩) (g0.1) rfl rfl hl.1 rfl (Nat.le_of_ble_eq_true rfl) dX9_sighs_50 ⟨Nat.zero_le _, Nat.zero_le _⟩ (fun σ5 H locs q5 hP1 hS1 => ?_)
    replace hP := hP1
    replace hS := hS1
    clear hP1 hS1
    try dsimp only at q5
    obtain ⟨w5, f5⟩ := q5
    replace hC := hC.tr (w5.mono (dS25_2 h0))
    replace t0 : σ5 h0 18 = σ5 h0 18 := rfl
    refine lv_aload_n hx hb dX9_sighs_53 rfl (lv_at hl 0 rfl) ?_
    refine lv_iload_n hx hb dX9_sighs_54 rfl (lv_at hl 1 rfl) ?_
    refine lv_iload_n hx hb dX9_sighs_55 rfl (lv_at hl 2 rfl) ?_
    refine lv_iconst (v := 1) hx hb dX9_sighs_56 (by decide) ?_
    refine lv_iadd hx hb dX9_sighs_57 ?_
    refine lv_topi (fun n6 e6 => ?_)
    skip
    refine zz_callVi (As := [.int tt, .int n6]) (rest := []) ⟨hx, hb, hml, hown, hts⟩ hK hP hS (c_X9_napSighs l E σ5 h0 tt n6 g0 (by omega) (by first | omega | (rw [t0]; omega)) kd md (by rw [zz_DMk (a := h0 + 1) hC (by intro i h1 h2; first | (dsimp only; omega) | omega)]; exact hkd) (by rw [hC _ _ (by first | (dsimp only; omega) | omega)]; exact hmd)) (cwV 2 hts gX9_sighs_X9_napSighs rfl rfl rfl (by decide +kernel) ⟨Nat.le_of_ble_eq_true rfl, Nat.le_of_ble_eq_true rfl⟩) (g0.1) rfl rfl hl.1 rfl (Nat.le_of_ble_eq_true rfl) dX9_sighs_58 ⟨Nat.zero_le _, Nat.zero_le _⟩ (fun r7 σ7 H locs q7 hP1 hS1 => ?_)
    replace hP := hP1
    replace hS := hS1
    clear hP1 hS1
    try dsimp only at q7
    obtain ⟨w7, f7⟩ := q7
    replace hC := hC.tr (w7.mono (dS25_2 h0))
    replace t0 : σ7 h0 18 = σ7 h0 18 := rfl
    exact zz_iret hx hb hr hlocks hK hP hS dX9_sighs_61 (by exact ⟨hC, by rw [t0]; omega, by unfold zz_si; rw [if_neg (by omega), if_pos (by omega), ← e6]; exact ⟨f7.2.1, f5.2.tr f7.2.2⟩⟩)
  by_cases c8 : (r1).toInt = 6
  · refine lv_tableIn (off := 56) (tgt := 62) hx hb dX9_sighs_6 (by omega) (by omega) (by rw [show ((r1).toInt - (2)).toNat = 4 from by omega]; rfl) (by decide) ?_
    refine lv_aload_n hx hb dX9_sighs_62 rfl (lv_at hl 0 rfl) ?_
    refine lv_bipush (v := 71) hx hb dX9_sighs_63 (by decide) ?_
    refine zz_callVv (As := [.int 71]) (rest := []) ⟨hx, hb, hml, hown, hts⟩ hK hP hS (c_X9_begins l E σ h0 71 g0 (by first | omega | (rw [t0]; omega))) (cwV 1 hts gX9_sighs_X9_begins rfl rfl rfl (by decide +kernel) ⟨Nat.le_of_ble_eq_true rfl, Nat.le_of_ble_eq_true rfl⟩) (g0.1) rfl rfl hl.1 rfl (Nat.le_of_ble_eq_true rfl) dX9_sighs_65 ⟨Nat.zero_le _, Nat.zero_le _⟩ (fun σ9 H locs q9 hP1 hS1 => ?_)
    replace hP := hP1
    replace hS := hS1
    clear hP1 hS1
    try dsimp only at q9
    obtain ⟨w9, f9⟩ := q9
    replace hC := hC.tr (w9.mono (dS25_2 h0))
    replace t0 : σ9 h0 18 = σ9 h0 18 := rfl
    refine lv_aload_n hx hb dX9_sighs_68 rfl (lv_at hl 0 rfl) ?_
    refine lv_iload_n hx hb dX9_sighs_69 rfl (lv_at hl 1 rfl) ?_
    refine lv_iload_n hx hb dX9_sighs_70 rfl (lv_at hl 2 rfl) ?_
    refine zz_callVi (As := [.int tt, .int x1]) (rest := []) ⟨hx, hb, hml, hown, hts⟩ hK hP hS (c_X9_plainSighs l E σ9 h0 tt x1 g0 (by omega) (by first | omega | (rw [t0]; omega)) kd md (by rw [zz_DMk (a := h0 + 1) hC (by intro i h1 h2; first | (dsimp only; omega) | omega)]; exact hkd) (by rw [hC _ _ (by first | (dsimp only; omega) | omega)]; exact hmd)) (cwV 2 hts gX9_sighs_X9_plainSighs rfl rfl rfl (by decide +kernel) ⟨Nat.le_of_ble_eq_true rfl, Nat.le_of_ble_eq_true rfl⟩) (g0.1) rfl rfl hl.1 rfl (Nat.le_of_ble_eq_true rfl) dX9_sighs_71 ⟨Nat.zero_le _, Nat.zero_le _⟩ (fun r10 σ10 H locs q10 hP1 hS1 => ?_)
    replace hP := hP1
    replace hS := hS1
    clear hP1 hS1
    try dsimp only at q10
    obtain ⟨w10, f10⟩ := q10
    replace hC := hC.tr (w10.mono (dS25_2 h0))
    replace t0 : σ10 h0 18 = σ10 h0 18 := rfl
    refine lv_aload_n hx hb dX9_sighs_74 rfl (lv_at hl 0 rfl) ?_
    refine lv_iload_n hx hb dX9_sighs_75 rfl (lv_at hl 1 rfl) ?_
    refine lv_iconst (v := 1) hx hb dX9_sighs_76 (by decide) ?_
    refine zz_callVp (As := [.int tt, .int 1]) (rest := [.int r10]) ⟨hx, hb, hml, hown, hts⟩ hK hP hS (c_X9_of l E σ10 h0 tt 1 g0 (by omega)) (cwV 2 hts gX9_sighs_X9_of rfl rfl rfl (by decide +kernel) ⟨Nat.le_of_ble_eq_true rfl, Nat.le_of_ble_eq_true rfl⟩) (g0.1) rfl rfl hl.1 rfl (Nat.le_of_ble_eq_true rfl) dX9_sighs_77 ⟨Nat.zero_le _, Nat.zero_le _⟩ (fun r11 H locs f11 hP1 hS1 => ?_)
    replace hP := hP1
    replace hS := hS1
    clear hP1 hS1
    have hm9 : r11 = md := by rw [f11, hC _ _ (by first | (dsimp only; omega) | omega)]; exact (congrArg (σ (h0 + 1)) (by omega)).trans hmd
    refine lv_iadd hx hb dX9_sighs_80 ?_
    refine lv_topi (fun n12 e12 => ?_)
    exact zz_iret hx hb hr hlocks hK hP hS dX9_sighs_81 (by exact ⟨hC, by rw [t0]; omega, by unfold zz_si; rw [if_neg (by omega), if_neg (by omega), if_pos (by omega)]; exact ⟨by rw [e12, f10.2.1, hm9], f9.2.tr f10.2.2⟩⟩)
  by_cases c912 : (r1).toInt < 2 ∨ 6 < (r1).toInt
  · refine lv_tableOut (tgt := 82) hx hb dX9_sighs_6 c912 (by decide) ?_
    refine lv_aload_n hx hb dX9_sighs_82 rfl (lv_at hl 0 rfl) ?_
    refine lv_iload_n hx hb dX9_sighs_83 rfl (lv_at hl 1 rfl) ?_
    refine lv_iload_n hx hb dX9_sighs_84 rfl (lv_at hl 2 rfl) ?_
    refine zz_callVi (As := [.int tt, .int x1]) (rest := []) ⟨hx, hb, hml, hown, hts⟩ hK hP hS (c_X9_plainSighs l E σ h0 tt x1 g0 (by omega) (by first | omega | (rw [t0]; omega)) kd md (by exact hkd) (by exact hmd)) (cwV 2 hts gX9_sighs_X9_plainSighs rfl rfl rfl (by decide +kernel) ⟨Nat.le_of_ble_eq_true rfl, Nat.le_of_ble_eq_true rfl⟩) (g0.1) rfl rfl hl.1 rfl (Nat.le_of_ble_eq_true rfl) dX9_sighs_85 ⟨Nat.zero_le _, Nat.zero_le _⟩ (fun r13 σ13 H locs q13 hP1 hS1 => ?_)
    replace hP := hP1
    replace hS := hS1
    clear hP1 hS1
    try dsimp only at q13
    obtain ⟨w13, f13⟩ := q13
    replace hC := hC.tr (w13.mono (dS25_2 h0))
    replace t0 : σ13 h0 18 = σ13 h0 18 := rfl
    exact zz_iret hx hb hr hlocks hK hP hS dX9_sighs_88 (by exact ⟨hC, by rw [t0]; omega, by unfold zz_si; rw [if_neg (by omega), if_neg (by omega), if_neg (by omega)]; exact f13.2⟩)
  by_cases c14 : (r1).toInt = 3
  · refine lv_tableIn (off := 76) (tgt := 82) hx hb dX9_sighs_6 (by omega) (by omega) (by rw [show ((r1).toInt - (2)).toNat = 1 from by omega]; rfl) (by decide) ?_
    refine lv_aload_n hx hb dX9_sighs_82 rfl (lv_at hl 0 rfl) ?_
    refine lv_iload_n hx hb dX9_sighs_83 rfl (lv_at hl 1 rfl) ?_
    refine lv_iload_n hx hb dX9_sighs_84 rfl (lv_at hl 2 rfl) ?_
    refine zz_callVi (As := [.int tt, .int x1]) (rest := []) ⟨hx, hb, hml, hown, hts⟩ hK hP hS (c_X9_plainSighs l E σ h0 tt x1 g0 (by omega) (by first | omega | (rw [t0]; omega)) kd md (by exact hkd) (by exact hmd)) (cwV 2 hts gX9_sighs_X9_plainSighs rfl rfl rfl (by decide +kernel) ⟨Nat.le_of_ble_eq_true rfl, Nat.le_of_ble_eq_true rfl⟩) (g0.1) rfl rfl hl.1 rfl (Nat.le_of_ble_eq_true rfl) dX9_sighs_85 ⟨Nat.zero_le _, Nat.zero_le _⟩ (fun r15 σ15 H locs q15 hP1 hS1 => ?_)
    replace hP := hP1
    replace hS := hS1
    clear hP1 hS1
    try dsimp only at q15
    obtain ⟨w15, f15⟩ := q15
    replace hC := hC.tr (w15.mono (dS25_2 h0))
    replace t0 : σ15 h0 18 = σ15 h0 18 := rfl
    exact zz_iret hx hb hr hlocks hK hP hS dX9_sighs_88 (by exact ⟨hC, by rw [t0]; omega, by unfold zz_si; rw [if_neg (by omega), if_neg (by omega), if_neg (by omega)]; exact f15.2⟩)
  have c16 : (r1).toInt = 4 := by omega
  refine lv_tableIn (off := 76) (tgt := 82) hx hb dX9_sighs_6 (by omega) (by omega) (by rw [show ((r1).toInt - (2)).toNat = 2 from by omega]; rfl) (by decide) ?_
  refine lv_aload_n hx hb dX9_sighs_82 rfl (lv_at hl 0 rfl) ?_
  refine lv_iload_n hx hb dX9_sighs_83 rfl (lv_at hl 1 rfl) ?_
  refine lv_iload_n hx hb dX9_sighs_84 rfl (lv_at hl 2 rfl) ?_
  refine zz_callVi (As := [.int tt, .int x1]) (rest := []) ⟨hx, hb, hml, hown, hts⟩ hK hP hS (c_X9_plainSighs l E σ h0 tt x1 g0 (by omega) (by first | omega | (rw [t0]; omega)) kd md (by exact hkd) (by exact hmd)) (cwV 2 hts gX9_sighs_X9_plainSighs rfl rfl rfl (by decide +kernel) ⟨Nat.le_of_ble_eq_true rfl, Nat.le_of_ble_eq_true rfl⟩) (g0.1) rfl rfl hl.1 rfl (Nat.le_of_ble_eq_true rfl) dX9_sighs_85 ⟨Nat.zero_le _, Nat.zero_le _⟩ (fun r17 σ17 H locs q17 hP1 hS1 => ?_)
  replace hP := hP1
  replace hS := hS1
  clear hP1 hS1
  try dsimp only at q17
  obtain ⟨w17, f17⟩ := q17
  replace hC := hC.tr (w17.mono (dS25_2 h0))
  replace t0 : σ17 h0 18 = σ17 h0 18 := rfl
  exact zz_iret hx hb hr hlocks hK hP hS dX9_sighs_88 (by exact ⟨hC, by rw [t0]; omega, by unfold zz_si; rw [if_neg (by omega), if_neg (by omega), if_neg (by omega)]; exact f17.2⟩)
theorem gX9_plainSnores_X9_begins : GoodIn wzX9_plainSnores (wsV RX9 220 RX9 yX9_begins wzX9_begins) := wz_co bm_838 (wz_co bm_839 (wz_co bm_840 (wz_co bm_5 (wz_in bm_841))))
theorem gX9_plainSnores_X9_sighs : GoodIn wzX9_plainSnores (wsV RX9 238 RX9 yX9_sighs wzX9_sighs) := wz_co bm_846 (wz_co bm_847 (wz_co bm_848 (wz_co bm_5 (wz_in bm_849))))
theorem gX9_plainSnores_X9_of : GoodIn wzX9_plainSnores (wsV RX9 51 RX9 yX9_of wzX9_of) := wz_co bm_240 (wz_co bm_241 (wz_co bm_242 (wz_co bm_5 (wz_in bm_243))))
set_option maxHeartbeats 4000000 in
set_option maxRecDepth 100000 in
theorem c_X9_plainSnores (l : Launch) (E : zz_E) (σ : zz_S) (h0 : Nat) (tt : Int32) (x1 : Int32) (g0 : zz_M E h0) (hx : 0 ≤ tt.toInt ∧ tt.toInt ≤ 8) (htr : 0 ≤ (σ h0 18).toInt ∧ (σ h0 18).toInt ≤ 30) (kd : Int) (md : Int32) (hkd : zz_DM σ (h0 + 1) tt.toInt.toNat 0 = kd) (hmd : σ (h0 + 1) (7 + 6 * tt.toInt.toNat + 1) = md) : Met l yX9_plainSnores wzX9_plainSnores ({ frames := 7, cells := 0, slots := 0, locals := 153 }) (va_Pc [.ref h0, .int tt, .int x1] (zz_B E σ)) (va_Qi (fun r σ1 => zz_ch (fun a k => (a = h0 ∧ k = 18) ∨ a = h0 + 12) σ σ1 ∧ ((0 ≤ (σ1 h0 18).toInt ∧ (σ1 h0 18).toInt ≤ 30) ∧ (r = (zz_np kd md tt x1).1 ∧ zz_tg σ σ1 (h0 + 12) h0 18 (zz_np kd md tt x1).2))) (zz_B E) (zz_A E)) 0 0 (zz_A E) := by
  refine zz_met (cc := cX9_plainSnores) (maxL := 3) (ret := (some .int)) (by decide) rfl (Nat.le_of_ble_eq_true rfl) ?_
  intro p e s m args below meth c ls hx hb hr hts hown hlocks hml hK hP hS hl
  have hl : lv_has ls 3 [(0, .ref h0), (1, .int tt), (2, .int x1)] := hl
  have hown : s.vm.findClass RX9 = some m.cls := hown
  have k_1 : (1 : Int32).toInt = 1 := by decide +kernel
  have k_12 : (12 : Int32).toInt = 12 := by decide +kernel
  replace t0 : σ h0 18 = σ h0 18 := rfl
  have hC : zz_ch (fun a k => (a = h0 ∧ k = 18) ∨ a = h0 + 12) σ σ := zz_ch.rf σ
  refine lv_aload_n hx hb dX9_plainSnores_0 rfl (lv_at hl 0 rfl) ?_
  refine lv_bipush (v := 12) hx hb dX9_plainSnores_1 (by decide) ?_
  refine zz_callVv (As := [.int 12]) (rest := []) ⟨hx, hb, hml, hown, hts⟩ hK hP hS (c_X9_begins l E σ h0 12 g0 (by first | omega | (rw [t0]; omega))) (cwV 1 hts gX9_plainSnores_X9_begins rfl rfl rfl (by decide +kernel) ⟨Nat.le_of_ble_eq_true rfl, Nat.le_of_ble_eq_true rfl⟩) (g0.1) rfl rfl hl.1 rfl (Nat.le_of_ble_eq_true rfl) dX9_plainSnores_3 ⟨Nat.zero_le _, Nat.zero_le _⟩ (fun σ1 H locs q1 hP1 hS1 => ?_)
  replace hP := hP1
  replace hS := hS1
  clear hP1 hS1
  try dsimp only at q1
  obtain ⟨w1, f1⟩ := q1
  replace hC := hC.tr (w1.mono (dS25_2 h0))
  replace t0 : σ1 h0 18 = σ1 h0 18 := rfl
  refine lv_aload_n hx hb dX9_plainSnores_6 rfl (lv_at hl 0 rfl) ?_
  refine lv_iload_n hx hb dX9_plainSnores_7 rfl (lv_at hl 1 rfl) ?_
  refine lv_iload_n hx hb dX9_plainSnores_8 rfl (lv_at hl 2 rfl) ?_
  refine zz_callVi (As := [.int tt, .int x1]) (rest := []) ⟨hx, hb, hml, hown, hts⟩ hK hP hS (c_X9_sighs l E σ1 h0 tt x1 g0 (by omega) (by first | omega | (rw [t0]; omega)) kd md (by rw [zz_DMk (a := h0 + 1) hC (by intro i h1 h2; first | (dsimp only; omega) | omega)]; exact hkd) (by rw [hC _ _ (by first | (dsimp only; omega) | omega)]; exact hmd)) (cwV 2 hts gX9_plainSnores_X9_sighs rfl rfl rfl (by decide +kernel) ⟨Nat.le_of_ble_eq_true rfl, Nat.le_of_ble_eq_true rfl⟩) (g0.1) rfl rfl hl.1 rfl (Nat.le_of_ble_eq_true rfl) dX9_plainSnores_9 ⟨Nat.zero_le _, Nat.zero_le _⟩ (fun r2 σ2 H locs q2 hP1 hS1 => ?_)
  replace hP := hP1
  replace hS := hS1
  clear hP1 hS1
  try dsimp only at q2
  obtain ⟨w2, f2⟩ := q2
  replace hC := hC.tr (w2.mono (dS25_2 h0))
  replace t0 : σ2 h0 18 = σ2 h0 18 := rfl
  refine lv_aload_n hx hb dX9_plainSnores_12 rfl (lv_at hl 0 rfl) ?_
  refine lv_iload_n hx hb dX9_plainSnores_13 rfl (lv_at hl 1 rfl) ?_
  refine lv_iconst (v := 1) hx hb dX9_plainSnores_14 (by decide) ?_
  refine zz_callVp (As := [.int tt, .int 1]) (rest := [.int r2]) ⟨hx, hb, hml, hown, hts⟩ hK hP hS (c_X9_of l E σ2 h0 tt 1 g0 (by omega)) (cwV 2 hts gX9_plainSnores_X9_of rfl rfl rfl (by decide +kernel) ⟨Nat.le_of_ble_eq_true rfl, Nat.le_of_ble_eq_true rfl⟩) (g0.1) rfl rfl hl.1 rfl (Nat.le_of_ble_eq_true rfl) dX9_plainSnores_15 ⟨Nat.zero_le _, Nat.zero_le _⟩ (fun r3 H locs f3 hP1 hS1 => ?_)
  replace hP := hP1
  replace hS := hS1
  clear hP1 hS1
  have hm9 : r3 = md := by rw [f3, hC _ _ (by first | (dsimp only; omega) | omega)]; exact (congrArg (σ (h0 + 1)) (by omega)).trans hmd
  refine lv_isub hx hb dX9_plainSnores_18 ?_
  refine lv_topi (fun n4 e4 => ?_)
  exact zz_iret hx hb hr hlocks hK hP hS dX9_plainSnores_19 (by exact ⟨hC, by rw [t0]; omega, by rw [e4, f2.2.1, hm9]; rfl, f1.2.tr f2.2.2⟩)
theorem gX9_snores_X9_of : GoodIn wzX9_snores (wsV RX9 51 RX9 yX9_of wzX9_of) := wz_co bm_240 (wz_co bm_241 (wz_co bm_242 (wz_co bm_5 (wz_in bm_243))))
theorem gX9_snores_X9_begins : GoodIn wzX9_snores (wsV RX9 220 RX9 yX9_begins wzX9_begins) := wz_co bm_838 (wz_co bm_839 (wz_co bm_840 (wz_co bm_5 (wz_in bm_841))))
theorem gX9_snores_X9_plainSnores : GoodIn wzX9_snores (wsV RX9 241 RX9 yX9_plainSnores wzX9_plainSnores) := wz_co bm_862 (wz_co bm_863 (wz_co bm_864 (wz_co bm_5 (wz_in bm_865))))
set_option maxHeartbeats 4000000 in
set_option maxRecDepth 100000 in
theorem c_X9_snores (l : Launch) (E : zz_E) (σ : zz_S) (h0 : Nat) (tt : Int32) (x1 : Int32) (g0 : zz_M E h0) (hx : 0 ≤ tt.toInt ∧ tt.toInt ≤ 8) (htr : 0 ≤ (σ h0 18).toInt ∧ (σ h0 18).toInt ≤ 30) (kd : Int) (md : Int32) (hkd : zz_DM σ (h0 + 1) tt.toInt.toNat 0 = kd) (hmd : σ (h0 + 1) (7 + 6 * tt.toInt.toNat + 1) = md) : Met l yX9_snores wzX9_snores ({ frames := 8, cells := 0, slots := 0, locals := 175 }) (va_Pc [.ref h0, .int tt, .int x1] (zz_B E σ)) (va_Qi (fun r σ1 => zz_ch (fun a k => (a = h0 ∧ k = 18) ∨ a = h0 + 12) σ σ1 ∧ ((0 ≤ (σ1 h0 18).toInt ∧ (σ1 h0 18).toInt ≤ 30) ∧ (r = (zz_sn kd md tt x1).1 ∧ zz_tg σ σ1 (h0 + 12) h0 18 (zz_sn kd md tt x1).2))) (zz_B E) (zz_A E)) 0 0 (zz_A E) := by
  refine zz_met (cc := cX9_snores) (maxL := 3) (ret := (some .int)) (by decide) rfl (Nat.le_of_ble_eq_true rfl) ?_
  intro p e s m args below meth c ls hx hb hr hts hown hlocks hml hK hP hS hl
  have hl : lv_has ls 3 [(0, .ref h0), (1, .int tt), (2, .int x1)] := hl
  have hown : s.vm.findClass RX9 = some m.cls := hown
  have k_0 : (0 : Int32).toInt = 0 := by decide +kernel
  have k_2 : (2 : Int32).toInt = 2 := by decide +kernel
  have k_40 : (40 : Int32).toInt = 40 := by decide +kernel
  have k_51 : (51 : Int32).toInt = 51 := by decide +kernel
  replace t0 : σ h0 18 = σ h0 18 := rfl
  have hC : zz_ch (fun a k => (a = h0 ∧ k = 18) ∨ a = h0 + 12) σ σ := zz_ch.rf σ
  refine lv_aload_n hx hb dX9_snores_0 rfl (lv_at hl 0 rfl) ?_
  refine lv_iload_n hx hb dX9_snores_1 rfl (lv_at hl 1 rfl) ?_
  refine lv_iconst (v := 0) hx hb dX9_snores_2 (by decide) ?_
  refine zz_callVp (As := [.int tt, .int 0]) (rest := []) ⟨hx, hb, hml, hown, hts⟩ hK hP hS (c_X9_of l E σ h0 tt 0 g0 (by omega)) (cwV 2 hts gX9_snores_X9_of rfl rfl rfl (by decide +kernel) ⟨Nat.le_of_ble_eq_true rfl, Nat.le_of_ble_eq_true rfl⟩) (g0.1) rfl rfl hl.1 rfl (Nat.le_of_ble_eq_true rfl) dX9_snores_3 ⟨Nat.zero_le _, Nat.zero_le _⟩ (fun r1 H locs f1 hP1 hS1 => ?_)
  replace hP := hP1
  replace hS := hS1
  clear hP1 hS1
  have hk9 : (r1).toInt = kd := by rw [← hkd, zz_DM.at (by omega) (by decide), f1]; exact congrArg (fun q => (σ (h0 + 1) q).toInt) (by omega)
  by_cases c2 : (r1).toInt = 3
  · refine lv_lookup (off := 26) (tgt := 32) hx hb dX9_snores_6 (by decide) (by rw [c2]; decide) (by decide) ?_
    refine lv_aload_n hx hb dX9_snores_32 rfl (lv_at hl 0 rfl) ?_
    refine lv_bipush (v := 40) hx hb dX9_snores_33 (by decide) ?_
    refine zz_callVv (As := [.int 40]) (rest := []) ⟨hx, hb, hml, hown, hts⟩ hK hP hS (c_X9_begins l E σ h0 40 g0 (by first | omega | (rw [t0]; omega))) (cwV 1 hts gX9_snores_X9_begins rfl rfl rfl (by decide +kernel) ⟨Nat.le_of_ble_eq_true rfl, Nat.le_of_ble_eq_true rfl⟩) (g0.1) rfl rfl hl.1 rfl (Nat.le_of_ble_eq_true rfl) dX9_snores_35 ⟨Nat.zero_le _, Nat.zero_le _⟩ (fun σ3 H locs q3 hP1 hS1 => ?_)
    replace hP := hP1
    replace hS := hS1
    clear hP1 hS1
    try dsimp only at q3
    obtain ⟨w3, f3⟩ := q3
    replace hC := hC.tr (w3.mono (dS25_2 h0))
    replace t0 : σ3 h0 18 = σ3 h0 18 := rfl
    refine lv_aload_n hx hb dX9_snores_38 rfl (lv_at hl 0 rfl) ?_
    refine lv_iload_n hx hb dX9_snores_39 rfl (lv_at hl 1 rfl) ?_
    refine lv_iload_n hx hb dX9_snores_40 rfl (lv_at hl 2 rfl) ?_
    refine lv_iconst (v := 2) hx hb dX9_snores_41 (by decide) ?_
    refine lv_idiv hx hb dX9_snores_42 (by decide) ?_
    refine lv_topi (fun n4 e4 => ?_)
    skip
    refine zz_callVi (As := [.int tt, .int n4]) (rest := []) ⟨hx, hb, hml, hown, hts⟩ hK hP hS (c_X9_plainSnores l E σ3 h0 tt n4 g0 (by omega) (by first | omega | (rw [t0]; omega)) kd md (by rw [zz_DMk (a := h0 + 1) hC (by intro i h1 h2; first | (dsimp only; omega) | omega)]; exact hkd) (by rw [hC _ _ (by first | (dsimp only; omega) | omega)]; exact hmd)) (cwV 2 hts gX9_snores_X9_plainSnores rfl rfl rfl (by decide +kernel) ⟨Nat.le_of_ble_eq_true rfl, Nat.le_of_ble_eq_true rfl⟩) (g0.1) rfl rfl hl.1 rfl (Nat.le_of_ble_eq_true rfl) dX9_snores_43 ⟨Nat.zero_le _, Nat.zero_le _⟩ (fun r5 σ5 H locs q5 hP1 hS1 => ?_)
    replace hP := hP1
    replace hS := hS1
    clear hP1 hS1
    try dsimp only at q5
    obtain ⟨w5, f5⟩ := q5
    replace hC := hC.tr (w5.mono (dS25_2 h0))
    replace t0 : σ5 h0 18 = σ5 h0 18 := rfl
    exact zz_iret hx hb hr hlocks hK hP hS dX9_snores_46 (by exact ⟨hC, by rw [t0]; omega, by unfold zz_sn; rw [if_pos (by omega), ← e4]; exact ⟨f5.2.1, f3.2.tr f5.2.2⟩⟩)
  by_cases c6 : (r1).toInt = 4
  · refine lv_lookup (off := 41) (tgt := 47) hx hb dX9_snores_6 (by decide) (by rw [c6]; decide) (by decide) ?_
    refine lv_aload_n hx hb dX9_snores_47 rfl (lv_at hl 0 rfl) ?_
    refine lv_bipush (v := 51) hx hb dX9_snores_48 (by decide) ?_
    refine zz_callVv (As := [.int 51]) (rest := []) ⟨hx, hb, hml, hown, hts⟩ hK hP hS (c_X9_begins l E σ h0 51 g0 (by first | omega | (rw [t0]; omega))) (cwV 1 hts gX9_snores_X9_begins rfl rfl rfl (by decide +kernel) ⟨Nat.le_of_ble_eq_true rfl, Nat.le_of_ble_eq_true rfl⟩) (g0.1) rfl rfl hl.1 rfl (Nat.le_of_ble_eq_true rfl) dX9_snores_50 ⟨Nat.zero_le _, Nat.zero_le _⟩ (fun σ7 H locs q7 hP1 hS1 => ?_)
    replace hP := hP1
    replace hS := hS1
    clear hP1 hS1
    try dsimp only at q7
    obtain ⟨w7, f7⟩ := q7
    replace hC := hC.tr (w7.mono (dS25_2 h0))
    replace t0 : σ7 h0 18 = σ7 h0 18 := rfl
    refine lv_aload_n hx hb dX9_snores_53 rfl (lv_at hl 0 rfl) ?_
    refine lv_iload_n hx hb dX9_snores_54 rfl (lv_at hl 1 rfl) ?_
    refine lv_iload_n hx hb dX9_snores_55 rfl (lv_at hl 2 rfl) ?_
    refine zz_callVi (As := [.int tt, .int x1]) (rest := []) ⟨hx, hb, hml, hown, hts⟩ hK hP hS (c_X9_plainSnores l E σ7 h0 tt x1 g0 (by omega) (by first | omega | (rw [t0]; omega)) kd md (by rw [zz_DMk (a := h0 + 1) hC (by intro i h1 h2; first | (dsimp only; omega) | omega)]; exact hkd) (by rw [hC _ _ (by first | (dsimp only; omega) | omega)]; exact hmd)) (cwV 2 hts gX9_snores_X9_plainSnores rfl rfl rfl (by decide +kernel) ⟨Nat.le_of_ble_eq_true rfl, Nat.le_of_ble_eq_true rfl⟩) (g0.1) rfl rfl hl.1 rfl (Nat.le_of_ble_eq_true rfl) dX9_snores_56 ⟨Nat.zero_le _, Nat.zero_le _⟩ (fun r8 σ8 H locs q8 hP1 hS1 => ?_)
    replace hP := hP1
    replace hS := hS1
    clear hP1 hS1
    try dsimp only at q8
    obtain ⟨w8, f8⟩ := q8
    replace hC := hC.tr (w8.mono (dS25_2 h0))
    replace t0 : σ8 h0 18 = σ8 h0 18 := rfl
    refine lv_iload_n hx hb dX9_snores_59 rfl (lv_at hl 1 rfl) ?_
    refine lv_ixor hx hb dX9_snores_60 ?_
    refine lv_topi (fun n9 e9 => ?_)
    exact zz_iret hx hb hr hlocks hK hP hS dX9_snores_61 (by exact ⟨hC, by rw [t0]; omega, by unfold zz_sn; rw [if_neg (by omega), if_pos (by omega)]; exact ⟨by rw [e9, f8.2.1], f7.2.tr f8.2.2⟩⟩)
  refine lv_lookup (off := 56) (tgt := 62) hx hb dX9_snores_6 (by decide) (by rw [Op.lookupswitch.offset_cons, if_neg (by omega)]; rw [Op.lookupswitch.offset_cons, if_neg (by omega)]; rfl) (by decide) ?_
  refine lv_aload_n hx hb dX9_snores_62 rfl (lv_at hl 0 rfl) ?_
  refine lv_iload_n hx hb dX9_snores_63 rfl (lv_at hl 1 rfl) ?_
  refine lv_iload_n hx hb dX9_snores_64 rfl (lv_at hl 2 rfl) ?_
  refine zz_callVi (As := [.int tt, .int x1]) (rest := []) ⟨hx, hb, hml, hown, hts⟩ hK hP hS (c_X9_plainSnores l E σ h0 tt x1 g0 (by omega) (by first | omega | (rw [t0]; omega)) kd md (by exact hkd) (by exact hmd)) (cwV 2 hts gX9_snores_X9_plainSnores rfl rfl rfl (by decide +kernel) ⟨Nat.le_of_ble_eq_true rfl, Nat.le_of_ble_eq_true rfl⟩) (g0.1) rfl rfl hl.1 rfl (Nat.le_of_ble_eq_true rfl) dX9_snores_65 ⟨Nat.zero_le _, Nat.zero_le _⟩ (fun r10 σ10 H locs q10 hP1 hS1 => ?_)
  replace hP := hP1
  replace hS := hS1
  clear hP1 hS1
  try dsimp only at q10
  obtain ⟨w10, f10⟩ := q10
  replace hC := hC.tr (w10.mono (dS25_2 h0))
  replace t0 : σ10 h0 18 = σ10 h0 18 := rfl
  exact zz_iret hx hb hr hlocks hK hP hS dX9_snores_68 (by exact ⟨hC, by rw [t0]; omega, by unfold zz_sn; rw [if_neg (by omega), if_neg (by omega)]; exact f10.2⟩)
theorem gX9_plainParts_X9_begins : GoodIn wzX9_plainParts (wsV RX9 220 RX9 yX9_begins wzX9_begins) := wz_co bm_838 (wz_co bm_839 (wz_co bm_840 (wz_co bm_5 (wz_in bm_841))))
theorem gX9_plainParts_X9_of : GoodIn wzX9_plainParts (wsV RX9 51 RX9 yX9_of wzX9_of) := wz_co bm_240 (wz_co bm_241 (wz_co bm_242 (wz_co bm_5 (wz_in bm_243))))
theorem dS25_3 (x0 : Nat) : ∀ a k : Nat, ((a = (x0) ∧ k = 18) ∨ a = (x0) + 12) → ((a = x0 ∧ (k = 18 ∨ k = 19)) ∨ a = x0 + 12) := by intro a k h; omega
theorem dS25_4 (x0 : Nat) : ¬ (((x0) = (x0) ∧ (19) = 18) ∨ (x0) = (x0) + 12) := by omega
theorem dS25_5 (x0 : Nat) : ((x0) = x0 ∧ ((19) = 18 ∨ (19) = 19)) ∨ (x0) = x0 + 12 := by omega
set_option maxHeartbeats 4000000 in
set_option maxRecDepth 100000 in
theorem c_X9_plainParts (l : Launch) (E : zz_E) (σ : zz_S) (h0 : Nat) (tt : Int32) (x1 : Int32) (g0 : zz_M E h0) (hx : 0 ≤ tt.toInt ∧ tt.toInt ≤ 8) (htr : 0 ≤ (σ h0 18).toInt ∧ (σ h0 18).toInt ≤ 30) (kd : Int) (md : Int32) (hkd : zz_DM σ (h0 + 1) tt.toInt.toNat 0 = kd) (hmd : σ (h0 + 1) (7 + 6 * tt.toInt.toNat + 1) = md) : Met l yX9_plainParts wzX9_plainParts ({ frames := 1, cells := 0, slots := 0, locals := 22 }) (va_Pc [.ref h0, .int tt, .int x1] (zz_B E σ)) (va_Qi (fun r σ1 => zz_ch (fun a k => (a = h0 ∧ (k = 18 ∨ k = 19)) ∨ a = h0 + 12) σ σ1 ∧ ((0 ≤ (σ1 h0 18).toInt ∧ (σ1 h0 18).toInt ≤ 30) ∧ (r = (zz_pp md tt x1).1 ∧ zz_tg σ σ1 (h0 + 12) h0 18 (zz_pp md tt x1).2.1 ∧ (σ1 h0 19).toInt = (zz_pp md tt x1).2.2))) (zz_B E) (zz_A E)) 0 0 (zz_A E) := by
  refine zz_met (cc := cX9_plainParts) (maxL := 4) (ret := (some .int)) (by decide) rfl (Nat.le_of_ble_eq_true rfl) ?_
  intro p e s m args below meth c ls hx hb hr hts hown hlocks hml hK hP hS hl
  have hl : lv_has ls 4 [(0, .ref h0), (1, .int tt), (2, .int x1)] := hl
  have hown : s.vm.findClass RX9 = some m.cls := hown
  have hi9 : ∀ w ∈ wsX90, w ∈ wzX9_plainParts := fun w h => List.mem_cons_of_mem _ (hbw9 w h)
  have k_0 : (0 : Int32).toInt = 0 := by decide +kernel
  have k_1 : (1 : Int32).toInt = 1 := by decide +kernel
  have k_13 : (13 : Int32).toInt = 13 := by decide +kernel
  replace t0 : σ h0 18 = σ h0 18 := rfl
  replace t1 : σ h0 19 = σ h0 19 := rfl
  have hC : zz_ch (fun a k => (a = h0 ∧ (k = 18 ∨ k = 19)) ∨ a = h0 + 12) σ σ := zz_ch.rf σ
  refine lv_aload_n hx hb dX9_plainParts_0 rfl (lv_at hl 0 rfl) ?_
  refine lv_bipush (v := 13) hx hb dX9_plainParts_1 (by decide) ?_
  refine zz_callVv (As := [.int 13]) (rest := []) ⟨hx, hb, hml, hown, hts⟩ hK hP hS (c_X9_begins l E σ h0 13 g0 (by first | omega | (rw [t0]; omega))) (cwV 1 hts gX9_plainParts_X9_begins rfl rfl rfl (by decide +kernel) ⟨Nat.le_of_ble_eq_true rfl, Nat.le_of_ble_eq_true rfl⟩) (g0.1) rfl rfl hl.1 rfl (Nat.le_of_ble_eq_true rfl) dX9_plainParts_3 ⟨Nat.zero_le _, Nat.zero_le _⟩ (fun σ1 H locs q1 hP1 hS1 => ?_)
  replace hP := hP1
  replace hS := hS1
  clear hP1 hS1
  try dsimp only at q1
  obtain ⟨w1, f1⟩ := q1
  replace hC := hC.tr (w1.mono (dS25_3 h0))
  replace t0 : σ1 h0 18 = σ1 h0 18 := rfl
  replace t1 : σ1 h0 19 = σ h0 19 := (w1 h0 19 (dS25_4 h0)).trans t1
  refine lv_aload_n hx hb dX9_plainParts_6 rfl (lv_at hl 0 rfl) ?_
  refine lv_iload_n hx hb dX9_plainParts_7 rfl (lv_at hl 1 rfl) ?_
  refine lv_iconst (v := 1) hx hb dX9_plainParts_8 (by decide) ?_
  refine zz_callVp (As := [.int tt, .int 1]) (rest := []) ⟨hx, hb, hml, hown, hts⟩ hK hP hS (c_X9_of l E σ1 h0 tt 1 g0 (by omega)) (cwV 2 hts gX9_plainParts_X9_of rfl rfl rfl (by decide +kernel) ⟨Nat.le_of_ble_eq_true rfl, Nat.le_of_ble_eq_true rfl⟩) (g0.1) rfl rfl hl.1 rfl (Nat.le_of_ble_eq_true rfl) dX9_plainParts_9 ⟨Nat.zero_le _, Nat.zero_le _⟩ (fun r2 H locs f2 hP1 hS1 => ?_)
  replace hP := hP1
  replace hS := hS1
  clear hP1 hS1
  try simp only [t1] at f2
  have hm9 : r2 = md := by rw [f2, hC _ _ (by first | (dsimp only; omega) | omega)]; exact (congrArg (σ (h0 + 1)) (by omega)).trans hmd
  refine lv_iload_n hx hb dX9_plainParts_12 rfl (lv_at hl 1 rfl) ?_
  refine lv_isub hx hb dX9_plainParts_13 ?_
  refine lv_topi (fun n3 e3 => ?_)
  refine lv_istore_n (lv' := [(3, .int n3), (0, .ref h0), (1, .int tt), (2, .int x1)]) hx hb dX9_plainParts_14 rfl hl (by decide) rfl (fun ls hl => ?_)
  refine lv_aload_n hx hb dX9_plainParts_15 rfl (lv_at hl 1 rfl) ?_
  refine lv_iload_n hx hb dX9_plainParts_16 rfl (lv_at hl 0 rfl) ?_
  refine lv_if_ne (tgt := 24) hx hb dX9_plainParts_17 (by decide) (fun c4 => ?_) (fun c4 => ?_)
  · have c4 := zz_neT c4
    skip
    refine lv_iconst (v := 0) hx hb dX9_plainParts_24 (by decide) ?_
    refine zz_puti (v := 0) (ty := .boolean) hx hb hts hi9 tyX9 tyX9_ok nmX9 hown hK hP hS (g0.1) rfl 19 (by decide) (hts (.fieldLink RX9 244 "NoonLawModel" "isParted" "Z") (List.mem_cons_of_mem _ bm_828)) rfl rfl (by decide +kernel) (zz_nz (by omega)) (zz_fz (by omega)) rfl dX9_plainParts_25 (fun σ5 H locs w5 hP1 hS1 => ?_)
    replace hP := hP1
    replace hS := hS1
    clear hP1 hS1
    replace hC := hC.u w5 (dS25_5 h0)
    replace t0 : σ5 h0 18 = σ1 h0 18 := (zz_w (b := h0) (j := 18) w5 (fun q9 => absurd q9.2 (by decide))).trans t0
    replace t1 : σ5 h0 19 = 0 := zz_w1 w5
    refine lv_aload_n hx hb dX9_plainParts_28 rfl (lv_at hl 1 rfl) ?_
    refine zz_geti hx hb hts hi9 hown hK hP (g0.1) rfl 19 (by decide) (hts (.fieldLink RX9 244 "NoonLawModel" "isParted" "Z") (List.mem_cons_of_mem _ bm_828)) rfl rfl t1 dX9_plainParts_29 ?_
    refine lv_if_eq (tgt := 39) hx hb dX9_plainParts_32 (by decide) (fun c6 => ?_) (fun c6 => ?_)
    · have c6 := zz_eqT c6
      skip
      refine lv_iload_n hx hb dX9_plainParts_39 rfl (lv_at hl 3 rfl) ?_
      refine lv_iload_n hx hb dX9_plainParts_40 rfl (lv_at hl 0 rfl) ?_
      refine lv_idiv hx hb dX9_plainParts_41 (zz_ne0 (by omega)) ?_
      refine lv_topi (fun n7 e7 => ?_)
      exact zz_iret hx hb hr hlocks hK hP hS dX9_plainParts_42 (by exact ⟨hC, by rw [t0]; omega, by unfold zz_pp; rw [← hm9, ← e3, if_neg (by omega)]; exact ⟨e7, (f1.2).out (fun k _ => by rw [w5, zz_un (by omega)]) (by rw [w5, zz_un (by omega)]), by rw [t1]; exact k_0⟩⟩)
    · have c6 := zz_neT c6
      skip
      refine lv_iconst (v := 0) hx hb dX9_plainParts_35 (by decide) ?_
      refine lv_goto (tgt := 42) hx hb dX9_plainParts_36 (by decide) ?_
      exact zz_iret hx hb hr hlocks hK hP hS dX9_plainParts_42 (by exact ⟨hC, by rw [t0]; omega, by exfalso; omega⟩)
  · have c4 := zz_eqT c4
    skip
    refine lv_iconst (v := 1) hx hb dX9_plainParts_20 (by decide) ?_
    refine lv_goto (tgt := 25) hx hb dX9_plainParts_21 (by decide) ?_
    refine zz_puti (v := 1) (ty := .boolean) hx hb hts hi9 tyX9 tyX9_ok nmX9 hown hK hP hS (g0.1) rfl 19 (by decide) (hts (.fieldLink RX9 244 "NoonLawModel" "isParted" "Z") (List.mem_cons_of_mem _ bm_828)) rfl rfl (by decide +kernel) (zz_nz (by omega)) (zz_fz (by omega)) rfl dX9_plainParts_25 (fun σ8 H locs w8 hP1 hS1 => ?_)
    replace hP := hP1
    replace hS := hS1
    clear hP1 hS1
    replace hC := hC.u w8 (dS25_5 h0)
    replace t0 : σ8 h0 18 = σ1 h0 18 := (zz_w (b := h0) (j := 18) w8 (fun q9 => absurd q9.2 (by decide))).trans t0
    replace t1 : σ8 h0 19 = 1 := zz_w1 w8
    refine lv_aload_n hx hb dX9_plainParts_28 rfl (lv_at hl 1 rfl) ?_
    refine zz_geti hx hb hts hi9 hown hK hP (g0.1) rfl 19 (by decide) (hts (.fieldLink RX9 244 "NoonLawModel" "isParted" "Z") (List.mem_cons_of_mem _ bm_828)) rfl rfl t1 dX9_plainParts_29 ?_
    refine lv_if_eq (tgt := 39) hx hb dX9_plainParts_32 (by decide) (fun c9 => ?_) (fun c9 => ?_)
    · have c9 := zz_eqT c9
      skip
      refine lv_iload_n hx hb dX9_plainParts_39 rfl (lv_at hl 3 rfl) ?_
      refine lv_iload_n hx hb dX9_plainParts_40 rfl (lv_at hl 0 rfl) ?_
      refine lv_idiv hx hb dX9_plainParts_41 (zz_ne0 (by omega)) ?_
      refine lv_topi (fun n10 e10 => ?_)
      exact zz_iret hx hb hr hlocks hK hP hS dX9_plainParts_42 (by exact ⟨hC, by rw [t0]; omega, by exfalso; omega⟩)
    · have c9 := zz_neT c9
      skip
      refine lv_iconst (v := 0) hx hb dX9_plainParts_35 (by decide) ?_
      refine lv_goto (tgt := 42) hx hb dX9_plainParts_36 (by decide) ?_
      exact zz_iret hx hb hr hlocks hK hP hS dX9_plainParts_42 (by exact ⟨hC, by rw [t0]; omega, by unfold zz_pp; rw [← hm9, ← e3, if_pos (by omega)]; exact ⟨rfl, (f1.2).out (fun k _ => by rw [w8, zz_un (by omega)]) (by rw [w8, zz_un (by omega)]), by rw [t1]; exact k_1⟩⟩)
theorem gX9_parts_X9_of : GoodIn wzX9_parts (wsV RX9 51 RX9 yX9_of wzX9_of) := wz_co bm_240 (wz_co bm_241 (wz_co bm_242 (wz_co bm_5 (wz_in bm_243))))
theorem gX9_parts_X9_begins : GoodIn wzX9_parts (wsV RX9 220 RX9 yX9_begins wzX9_begins) := wz_co bm_838 (wz_co bm_839 (wz_co bm_840 (wz_co bm_5 (wz_in bm_841))))
theorem gX9_parts_X9_plainParts : GoodIn wzX9_parts (wsV RX9 247 RX9 yX9_plainParts wzX9_plainParts) := wz_co bm_870 (wz_co bm_871 (wz_co bm_872 (wz_co bm_5 (wz_in bm_873))))
theorem gX9_parts_X9_sighs : GoodIn wzX9_parts (wsV RX9 238 RX9 yX9_sighs wzX9_sighs) := wz_co bm_846 (wz_co bm_847 (wz_co bm_848 (wz_co bm_5 (wz_in bm_849))))
theorem dS25_6 (x0 : Nat) : ∀ a k : Nat, ((a = (x0) ∧ (k = 18 ∨ k = 19)) ∨ a = (x0) + 12) → ((a = x0 ∧ (k = 18 ∨ k = 19)) ∨ a = x0 + 12) := by intro a k h; omega
set_option maxHeartbeats 4000000 in
set_option maxRecDepth 100000 in
theorem c_X9_parts (l : Launch) (E : zz_E) (σ : zz_S) (h0 : Nat) (tt : Int32) (x1 : Int32) (g0 : zz_M E h0) (hx : 0 ≤ tt.toInt ∧ tt.toInt ≤ 8) (htr : 0 ≤ (σ h0 18).toInt ∧ (σ h0 18).toInt ≤ 30) (kd : Int) (md : Int32) (hkd : zz_DM σ (h0 + 1) tt.toInt.toNat 0 = kd) (hmd : σ (h0 + 1) (7 + 6 * tt.toInt.toNat + 1) = md) : Met l yX9_parts wzX9_parts ({ frames := 7, cells := 0, slots := 0, locals := 153 }) (va_Pc [.ref h0, .int tt, .int x1] (zz_B E σ)) (va_Qi (fun r σ1 => zz_ch (fun a k => (a = h0 ∧ (k = 18 ∨ k = 19)) ∨ a = h0 + 12) σ σ1 ∧ ((0 ≤ (σ1 h0 18).toInt ∧ (σ1 h0 18).toInt ≤ 30) ∧ (r = (zz_pa kd md tt x1).1 ∧ zz_tg σ σ1 (h0 + 12) h0 18 (zz_pa kd md tt x1).2.1 ∧ (σ1 h0 19).toInt = (zz_pa kd md tt x1).2.2))) (zz_B E) (zz_A E)) 0 0 (zz_A E) := by
  refine zz_met (cc := cX9_parts) (maxL := 4) (ret := (some .int)) (by decide) rfl (Nat.le_of_ble_eq_true rfl) ?_
  intro p e s m args below meth c ls hx hb hr hts hown hlocks hml hK hP hS hl
  have hl : lv_has ls 4 [(0, .ref h0), (1, .int tt), (2, .int x1)] := hl
  have hown : s.vm.findClass RX9 = some m.cls := hown
  have hi9 : ∀ w ∈ wsX90, w ∈ wzX9_parts := fun w h => List.mem_cons_of_mem _ (hbw9 w h)
  have k_0 : (0 : Int32).toInt = 0 := by decide +kernel
  have k_1 : (1 : Int32).toInt = 1 := by decide +kernel
  have k_4 : (4 : Int32).toInt = 4 := by decide +kernel
  have k_21 : (21 : Int32).toInt = 21 := by decide +kernel
  replace t0 : σ h0 18 = σ h0 18 := rfl
  replace t1 : σ h0 19 = σ h0 19 := rfl
  have hC : zz_ch (fun a k => (a = h0 ∧ (k = 18 ∨ k = 19)) ∨ a = h0 + 12) σ σ := zz_ch.rf σ
  refine lv_aload_n hx hb dX9_parts_0 rfl (lv_at hl 0 rfl) ?_
  refine lv_iload_n hx hb dX9_parts_1 rfl (lv_at hl 1 rfl) ?_
  refine lv_iconst (v := 0) hx hb dX9_parts_2 (by decide) ?_
  refine zz_callVp (As := [.int tt, .int 0]) (rest := []) ⟨hx, hb, hml, hown, hts⟩ hK hP hS (c_X9_of l E σ h0 tt 0 g0 (by omega)) (cwV 2 hts gX9_parts_X9_of rfl rfl rfl (by decide +kernel) ⟨Nat.le_of_ble_eq_true rfl, Nat.le_of_ble_eq_true rfl⟩) (g0.1) rfl rfl hl.1 rfl (Nat.le_of_ble_eq_true rfl) dX9_parts_3 ⟨Nat.zero_le _, Nat.zero_le _⟩ (fun r1 H locs f1 hP1 hS1 => ?_)
  replace hP := hP1
  replace hS := hS1
  clear hP1 hS1
  have hk9 : (r1).toInt = kd := by rw [← hkd, zz_DM.at (by omega) (by decide), f1]; exact congrArg (fun q => (σ (h0 + 1) q).toInt) (by omega)
  refine lv_iconst (v := 1) hx hb dX9_parts_6 (by decide) ?_
  refine lv_icmp_eq (tgt := 20) hx hb dX9_parts_7 (by decide) (fun c2 => ?_) (fun c2 => ?_)
  · have c2 := zz_eqT c2
    refine lv_aload_n hx hb dX9_parts_20 rfl (lv_at hl 0 rfl) ?_
    refine lv_bipush (v := 21) hx hb dX9_parts_21 (by decide) ?_
    refine zz_callVv (As := [.int 21]) (rest := []) ⟨hx, hb, hml, hown, hts⟩ hK hP hS (c_X9_begins l E σ h0 21 g0 (by first | omega | (rw [t0]; omega))) (cwV 1 hts gX9_parts_X9_begins rfl rfl rfl (by decide +kernel) ⟨Nat.le_of_ble_eq_true rfl, Nat.le_of_ble_eq_true rfl⟩) (g0.1) rfl rfl hl.1 rfl (Nat.le_of_ble_eq_true rfl) dX9_parts_23 ⟨Nat.zero_le _, Nat.zero_le _⟩ (fun σ3 H locs q3 hP1 hS1 => ?_)
    replace hP := hP1
    replace hS := hS1
    clear hP1 hS1
    try dsimp only at q3
    obtain ⟨w3, f3⟩ := q3
    replace hC := hC.tr (w3.mono (dS25_3 h0))
    replace t0 : σ3 h0 18 = σ3 h0 18 := rfl
    replace t1 : σ3 h0 19 = σ h0 19 := (w3 h0 19 (dS25_4 h0)).trans t1
    refine lv_aload_n hx hb dX9_parts_26 rfl (lv_at hl 0 rfl) ?_
    refine lv_iload_n hx hb dX9_parts_27 rfl (lv_at hl 1 rfl) ?_
    refine lv_iload_n hx hb dX9_parts_28 rfl (lv_at hl 2 rfl) ?_
    refine zz_callVi (As := [.int tt, .int x1]) (rest := []) ⟨hx, hb, hml, hown, hts⟩ hK hP hS (c_X9_plainParts l E σ3 h0 tt x1 g0 (by omega) (by first | omega | (rw [t0]; omega)) kd md (by rw [zz_DMk (a := h0 + 1) hC (by intro i h1 h2; first | (dsimp only; omega) | omega)]; exact hkd) (by rw [hC _ _ (by first | (dsimp only; omega) | omega)]; exact hmd)) (cwV 2 hts gX9_parts_X9_plainParts rfl rfl rfl (by decide +kernel) ⟨Nat.le_of_ble_eq_true rfl, Nat.le_of_ble_eq_true rfl⟩) (g0.1) rfl rfl hl.1 rfl (Nat.le_of_ble_eq_true rfl) dX9_parts_29 ⟨Nat.zero_le _, Nat.zero_le _⟩ (fun r4 σ4 H locs q4 hP1 hS1 => ?_)
    replace hP := hP1
    replace hS := hS1
    clear hP1 hS1
    try dsimp only at q4
    obtain ⟨w4, f4⟩ := q4
    replace hC := hC.tr (w4.mono (dS25_6 h0))
    try simp only [t1] at f4
    replace t0 : σ4 h0 18 = σ4 h0 18 := rfl
    replace t1 : σ4 h0 19 = σ4 h0 19 := rfl
    refine lv_istore_n (lv' := [(3, .int r4), (0, .ref h0), (1, .int tt), (2, .int x1)]) hx hb dX9_parts_32 rfl hl (by decide) rfl (fun ls hl => ?_)
    refine lv_aload_n hx hb dX9_parts_33 rfl (lv_at hl 1 rfl) ?_
    refine zz_geti hx hb hts hi9 hown hK hP (g0.1) rfl 19 (by decide) (hts (.fieldLink RX9 244 "NoonLawModel" "isParted" "Z") (List.mem_cons_of_mem _ bm_828)) rfl rfl t1 dX9_parts_34 ?_
    refine lv_if_eq (tgt := 44) hx hb dX9_parts_37 (by decide) (fun c5 => ?_) (fun c5 => ?_)
    · have c5 := zz_eqT c5
      refine lv_iload_n hx hb dX9_parts_44 rfl (lv_at hl 0 rfl) ?_
      refine lv_aload_n hx hb dX9_parts_45 rfl (lv_at hl 1 rfl) ?_
      refine lv_iload_n hx hb dX9_parts_46 rfl (lv_at hl 2 rfl) ?_
      refine lv_iconst (v := 1) hx hb dX9_parts_47 (by decide) ?_
      refine zz_callVi (As := [.int tt, .int 1]) (rest := [.int r4]) ⟨hx, hb, hml, hown, hts⟩ hK hP hS (c_X9_sighs l E σ4 h0 tt 1 g0 (by omega) (by first | omega | (rw [t0]; omega)) kd md (by rw [zz_DMk (a := h0 + 1) hC (by intro i h1 h2; first | (dsimp only; omega) | omega)]; exact hkd) (by rw [hC _ _ (by first | (dsimp only; omega) | omega)]; exact hmd)) (cwV 2 hts gX9_parts_X9_sighs rfl rfl rfl (by decide +kernel) ⟨Nat.le_of_ble_eq_true rfl, Nat.le_of_ble_eq_true rfl⟩) (g0.1) rfl rfl hl.1 rfl (Nat.le_of_ble_eq_true rfl) dX9_parts_48 ⟨Nat.zero_le _, Nat.zero_le _⟩ (fun r6 σ6 H locs q6 hP1 hS1 => ?_)
      replace hP := hP1
      replace hS := hS1
      clear hP1 hS1
      try dsimp only at q6
      obtain ⟨w6, f6⟩ := q6
      replace hC := hC.tr (w6.mono (dS25_3 h0))
      replace t0 : σ6 h0 18 = σ6 h0 18 := rfl
      replace t1 : σ6 h0 19 = σ4 h0 19 := (w6 h0 19 (dS25_4 h0)).trans t1
      refine lv_iadd hx hb dX9_parts_51 ?_
      refine lv_topi (fun n7 e7 => ?_)
      have g2 := f4.2
      unfold zz_pp at g2
      have hz : ¬ (md - tt).toInt = 0 := fun q => by rw [if_pos q] at g2; have g3 : (σ4 h0 19).toInt = 1 := g2.2.2; omega
      rw [if_neg hz] at g2
      exact zz_iret hx hb hr hlocks hK hP hS dX9_parts_52 (by exact ⟨hC, by rw [t0]; omega, by unfold zz_pa; rw [if_pos (by omega), if_neg hz]; exact ⟨by rw [e7, g2.1, f6.2.1], (f3.2.tr g2.2.1).tr f6.2.2, by rw [t1]; exact g2.2.2⟩⟩)
    · have c5 := zz_neT c5
      refine lv_iconst (v := 0) hx hb dX9_parts_40 (by decide) ?_
      refine lv_goto (tgt := 52) hx hb dX9_parts_41 (by decide) ?_
      have g2 := f4.2
      unfold zz_pp at g2
      have hz : (md - tt).toInt = 0 := by
        by_cases q : (md - tt).toInt = 0
        · exact q
        · rw [if_neg q] at g2; have g3 : (σ4 h0 19).toInt = 0 := g2.2.2; omega
      rw [if_pos hz] at g2
      exact zz_iret hx hb hr hlocks hK hP hS dX9_parts_52 (by exact ⟨hC, by rw [t0]; omega, by unfold zz_pa; rw [if_pos (by omega), if_pos hz]; exact ⟨rfl, f3.2.tr g2.2.1, g2.2.2⟩⟩)
  · have c2 := zz_neT c2
    refine lv_aload_n hx hb dX9_parts_10 rfl (lv_at hl 0 rfl) ?_
    refine lv_iload_n hx hb dX9_parts_11 rfl (lv_at hl 1 rfl) ?_
    refine lv_iconst (v := 0) hx hb dX9_parts_12 (by decide) ?_
    refine zz_callVp (As := [.int tt, .int 0]) (rest := []) ⟨hx, hb, hml, hown, hts⟩ hK hP hS (c_X9_of l E σ h0 tt 0 g0 (by omega)) (cwV 2 hts gX9_parts_X9_of rfl rfl rfl (by decide +kernel) ⟨Nat.le_of_ble_eq_true rfl, Nat.le_of_ble_eq_true rfl⟩) (g0.1) rfl rfl hl.1 rfl (Nat.le_of_ble_eq_true rfl) dX9_parts_13 ⟨Nat.zero_le _, Nat.zero_le _⟩ (fun r8 H locs f8 hP1 hS1 => ?_)
    replace hP := hP1
    replace hS := hS1
    clear hP1 hS1
    have hk9 : (r8).toInt = kd := by rw [← hkd, zz_DM.at (by omega) (by decide), f8]; exact congrArg (fun q => (σ (h0 + 1) q).toInt) (by omega)
    refine lv_iconst (v := 4) hx hb dX9_parts_16 (by decide) ?_
    refine lv_icmp_ne (tgt := 53) hx hb dX9_parts_17 (by decide) (fun c9 => ?_) (fun c9 => ?_)
    · have c9 := zz_neT c9
      refine lv_aload_n hx hb dX9_parts_53 rfl (lv_at hl 0 rfl) ?_
      refine lv_iload_n hx hb dX9_parts_54 rfl (lv_at hl 1 rfl) ?_
      refine lv_iload_n hx hb dX9_parts_55 rfl (lv_at hl 2 rfl) ?_
      refine zz_callVi (As := [.int tt, .int x1]) (rest := []) ⟨hx, hb, hml, hown, hts⟩ hK hP hS (c_X9_plainParts l E σ h0 tt x1 g0 (by omega) (by first | omega | (rw [t0]; omega)) kd md (by exact hkd) (by exact hmd)) (cwV 2 hts gX9_parts_X9_plainParts rfl rfl rfl (by decide +kernel) ⟨Nat.le_of_ble_eq_true rfl, Nat.le_of_ble_eq_true rfl⟩) (g0.1) rfl rfl hl.1 rfl (Nat.le_of_ble_eq_true rfl) dX9_parts_56 ⟨Nat.zero_le _, Nat.zero_le _⟩ (fun r10 σ10 H locs q10 hP1 hS1 => ?_)
      replace hP := hP1
      replace hS := hS1
      clear hP1 hS1
      try dsimp only at q10
      obtain ⟨w10, f10⟩ := q10
      replace hC := hC.tr (w10.mono (dS25_6 h0))
      replace t0 : σ10 h0 18 = σ10 h0 18 := rfl
      replace t1 : σ10 h0 19 = σ10 h0 19 := rfl
      exact zz_iret hx hb hr hlocks hK hP hS dX9_parts_59 (by exact ⟨hC, by rw [t0]; omega, by unfold zz_pa; rw [if_neg (by omega)]; exact f10.2⟩)
    · have c9 := zz_eqT c9
      refine lv_aload_n hx hb dX9_parts_20 rfl (lv_at hl 0 rfl) ?_
      refine lv_bipush (v := 21) hx hb dX9_parts_21 (by decide) ?_
      refine zz_callVv (As := [.int 21]) (rest := []) ⟨hx, hb, hml, hown, hts⟩ hK hP hS (c_X9_begins l E σ h0 21 g0 (by first | omega | (rw [t0]; omega))) (cwV 1 hts gX9_parts_X9_begins rfl rfl rfl (by decide +kernel) ⟨Nat.le_of_ble_eq_true rfl, Nat.le_of_ble_eq_true rfl⟩) (g0.1) rfl rfl hl.1 rfl (Nat.le_of_ble_eq_true rfl) dX9_parts_23 ⟨Nat.zero_le _, Nat.zero_le _⟩ (fun σ11 H locs q11 hP1 hS1 => ?_)
      replace hP := hP1
      replace hS := hS1
      clear hP1 hS1
      try dsimp only at q11
      obtain ⟨w11, f11⟩ := q11
      replace hC := hC.tr (w11.mono (dS25_3 h0))
      replace t0 : σ11 h0 18 = σ11 h0 18 := rfl
      replace t1 : σ11 h0 19 = σ h0 19 := (w11 h0 19 (dS25_4 h0)).trans t1
      refine lv_aload_n hx hb dX9_parts_26 rfl (lv_at hl 0 rfl) ?_
      refine lv_iload_n hx hb dX9_parts_27 rfl (lv_at hl 1 rfl) ?_
      refine lv_iload_n hx hb dX9_parts_28 rfl (lv_at hl 2 rfl) ?_
      refine zz_callVi (As := [.int tt, .int x1]) (rest := []) ⟨hx, hb, hml, hown, hts⟩ hK hP hS (c_X9_plainParts l E σ11 h0 tt x1 g0 (by omega) (by first | omega | (rw [t0]; omega)) kd md (by rw [zz_DMk (a := h0 + 1) hC (by intro i h1 h2; first | (dsimp only; omega) | omega)]; exact hkd) (by rw [hC _ _ (by first | (dsimp only; omega) | omega)]; exact hmd)) (cwV 2 hts gX9_parts_X9_plainParts rfl rfl rfl (by decide +kernel) ⟨Nat.le_of_ble_eq_true rfl, Nat.le_of_ble_eq_true rfl⟩) (g0.1) rfl rfl hl.1 rfl (Nat.le_of_ble_eq_true rfl) dX9_parts_29 ⟨Nat.zero_le _, Nat.zero_le _⟩ (fun r12 σ12 H locs q12 hP1 hS1 => ?_)
      replace hP := hP1
      replace hS := hS1
      clear hP1 hS1
      try dsimp only at q12
      obtain ⟨w12, f12⟩ := q12
      replace hC := hC.tr (w12.mono (dS25_6 h0))
      try simp only [t1] at f12
      replace t0 : σ12 h0 18 = σ12 h0 18 := rfl
      replace t1 : σ12 h0 19 = σ12 h0 19 := rfl
      refine lv_istore_n (lv' := [(3, .int r12), (0, .ref h0), (1, .int tt), (2, .int x1)]) hx hb dX9_parts_32 rfl hl (by decide) rfl (fun ls hl => ?_)
      refine lv_aload_n hx hb dX9_parts_33 rfl (lv_at hl 1 rfl) ?_
      refine zz_geti hx hb hts hi9 hown hK hP (g0.1) rfl 19 (by decide) (hts (.fieldLink RX9 244 "NoonLawModel" "isParted" "Z") (List.mem_cons_of_mem _ bm_828)) rfl rfl t1 dX9_parts_34 ?_
      refine lv_if_eq (tgt := 44) hx hb dX9_parts_37 (by decide) (fun c13 => ?_) (fun c13 => ?_)
      · have c13 := zz_eqT c13
        refine lv_iload_n hx hb dX9_parts_44 rfl (lv_at hl 0 rfl) ?_
        refine lv_aload_n hx hb dX9_parts_45 rfl (lv_at hl 1 rfl) ?_
        refine lv_iload_n hx hb dX9_parts_46 rfl (lv_at hl 2 rfl) ?_
        refine lv_iconst (v := 1) hx hb dX9_parts_47 (by decide) ?_
        refine zz_callVi (As := [.int tt, .int 1]) (rest := [.int r12]) ⟨hx, hb, hml, hown, hts⟩ hK hP hS (c_X9_sighs l E σ12 h0 tt 1 g0 (by omega) (by first | omega | (rw [t0]; omega)) kd md (by rw [zz_DMk (a := h0 + 1) hC (by intro i h1 h2; first | (dsimp only; omega) | omega)]; exact hkd) (by rw [hC _ _ (by first | (dsimp only; omega) | omega)]; exact hmd)) (cwV 2 hts gX9_parts_X9_sighs rfl rfl rfl (by decide +kernel) ⟨Nat.le_of_ble_eq_true rfl, Nat.le_of_ble_eq_true rfl⟩) (g0.1) rfl rfl hl.1 rfl (Nat.le_of_ble_eq_true rfl) dX9_parts_48 ⟨Nat.zero_le _, Nat.zero_le _⟩ (fun r14 σ14 H locs q14 hP1 hS1 => ?_)
        replace hP := hP1
        replace hS := hS1
        clear hP1 hS1
        try dsimp only at q14
        obtain ⟨w14, f14⟩ := q14
        replace hC := hC.tr (w14.mono (dS25_3 h0))
        replace t0 : σ14 h0 18 = σ14 h0 18 := rfl
        replace t1 : σ14 h0 19 = σ12 h0 19 := (w14 h0 19 (dS25_4 h0)).trans t1
        refine lv_iadd hx hb dX9_parts_51 ?_
        refine lv_topi (fun n15 e15 => ?_)
        have g2 := f12.2
        unfold zz_pp at g2
        have hz : ¬ (md - tt).toInt = 0 := fun q => by rw [if_pos q] at g2; have g3 : (σ12 h0 19).toInt = 1 := g2.2.2; omega
        rw [if_neg hz] at g2
        exact zz_iret hx hb hr hlocks hK hP hS dX9_parts_52 (by exact ⟨hC, by rw [t0]; omega, by unfold zz_pa; rw [if_pos (by omega), if_neg hz]; exact ⟨by rw [e15, g2.1, f14.2.1], (f11.2.tr g2.2.1).tr f14.2.2, by rw [t1]; exact g2.2.2⟩⟩)
      · have c13 := zz_neT c13
        refine lv_iconst (v := 0) hx hb dX9_parts_40 (by decide) ?_
        refine lv_goto (tgt := 52) hx hb dX9_parts_41 (by decide) ?_
        have g2 := f12.2
        unfold zz_pp at g2
        have hz : (md - tt).toInt = 0 := by
          by_cases q : (md - tt).toInt = 0
          · exact q
          · rw [if_neg q] at g2; have g3 : (σ12 h0 19).toInt = 0 := g2.2.2; omega
        rw [if_pos hz] at g2
        exact zz_iret hx hb hr hlocks hK hP hS dX9_parts_52 (by exact ⟨hC, by rw [t0]; omega, by unfold zz_pa; rw [if_pos (by omega), if_pos hz]; exact ⟨rfl, f11.2.tr g2.2.1, g2.2.2⟩⟩)
theorem gX9_voice_X9_isDream : GoodIn wzX9_voice (wsV RX9 101 RX9 yX9_isDream wzX9_isDream) := wz_co bm_236 (wz_co bm_237 (wz_co bm_238 (wz_co bm_5 (wz_in bm_239))))
theorem gX9_voice_X9_in : GoodIn wzX9_voice (va_wsS RX9 47 yX9_in wzX9_in) := wz_co bm_143 (wz_co bm_144 (wz_co bm_5 (wz_in bm_145)))
theorem gX9_voice_X9_error : GoodIn wzX9_voice (wsV RX9 94 RX9 yX9_error wzX9_error) := wz_co bm_146 (wz_co bm_147 (wz_co bm_148 (wz_co bm_5 (wz_in bm_149))))
theorem gX9_voice_X9_mutters : GoodIn wzX9_voice (wsV RX9 229 RX9 yX9_mutters wzX9_mutters) := wz_co bm_830 (wz_co bm_831 (wz_co bm_832 (wz_co bm_5 (wz_in bm_833))))
theorem gX9_voice_X9_sighs : GoodIn wzX9_voice (wsV RX9 238 RX9 yX9_sighs wzX9_sighs) := wz_co bm_846 (wz_co bm_847 (wz_co bm_848 (wz_co bm_5 (wz_in bm_849))))
theorem gX9_voice_X9_snores : GoodIn wzX9_voice (wsV RX9 250 RX9 yX9_snores wzX9_snores) := wz_co bm_858 (wz_co bm_859 (wz_co bm_860 (wz_co bm_5 (wz_in bm_861))))
theorem gX9_voice_X9_parts : GoodIn wzX9_voice (wsV RX9 253 RX9 yX9_parts wzX9_parts) := wz_co bm_866 (wz_co bm_867 (wz_co bm_868 (wz_co bm_5 (wz_in bm_869))))
theorem dS25_7 (x0 : Nat) : ∀ a k : Nat, (a = (x0) + 3) → ((a = x0 + 3 ∨ (x0 + 7 ≤ a ∧ a ≤ x0 + 11)) ∨ (a = x0 ∧ (k = 18 ∨ k = 19)) ∨ a = x0 + 12) := by intro a k h; omega
theorem dS25_8 (x0 : Nat) : ¬ ((x0) = (x0) + 3) := by omega
theorem dS25_9 (x0 : Nat) : ((x0) = x0 + 3 ∨ (x0 + 7 ≤ (x0) ∧ (x0) ≤ x0 + 11)) ∨ ((x0) = x0 ∧ ((18) = 18 ∨ (18) = 19)) ∨ (x0) = x0 + 12 := by omega
theorem dS25_10 (x0 : Nat) : ((x0) = x0 + 3 ∨ (x0 + 7 ≤ (x0) ∧ (x0) ≤ x0 + 11)) ∨ ((x0) = x0 ∧ ((19) = 18 ∨ (19) = 19)) ∨ (x0) = x0 + 12 := by omega
theorem dS25_11 (x0 : Nat) : ∀ a k : Nat, ((a = (x0) ∧ (k = 18 ∨ k = 19)) ∨ a = (x0) + 12) → ((a = x0 + 3 ∨ (x0 + 7 ≤ a ∧ a ≤ x0 + 11)) ∨ (a = x0 ∧ (k = 18 ∨ k = 19)) ∨ a = x0 + 12) := by intro a k h; omega
theorem dS25_12 (x0 : Nat) : ∀ a k : Nat, ((a = (x0) ∧ k = 18) ∨ a = (x0) + 12) → ((a = x0 + 3 ∨ (x0 + 7 ≤ a ∧ a ≤ x0 + 11)) ∨ (a = x0 ∧ (k = 18 ∨ k = 19)) ∨ a = x0 + 12) := by intro a k h; omega
set_option maxHeartbeats 4000000 in
set_option maxRecDepth 100000 in
theorem c_X9_voice (l : Launch) (E : zz_E) (σ : zz_S) (h0 : Nat) (dm : Int32) (vo : Int32) (x1 : Int32) (g0 : zz_M E h0) (hJ : zz_IM σ h0) : Met l yX9_voice wzX9_voice ({ frames := 9, cells := 0, slots := 0, locals := 197 }) (va_Pc [.ref h0, .int dm, .int vo, .int x1] (zz_B E σ)) (va_Qi (fun r σ1 => zz_ch (fun a k => (a = h0 + 3 ∨ (h0 + 7 ≤ a ∧ a ≤ h0 + 11)) ∨ (a = h0 ∧ (k = 18 ∨ k = 19)) ∨ a = h0 + 12) σ σ1 ∧ (zz_IM σ1 h0 ∧ ((¬ (0 ≤ dm.toInt ∧ dm.toInt < (σ (h0 + 1) 2).toInt ∧ 0 ≤ vo.toInt ∧ vo.toInt ≤ 3) ∧ r.toInt = -1000000001 ∧ zz_TV σ1 (h0 + 12) = zz_TV σ (h0 + 12) ∧ (σ1 h0 18).toInt = (σ h0 18).toInt) ∨ ((0 ≤ dm.toInt ∧ dm.toInt < (σ (h0 + 1) 2).toInt ∧ 0 ≤ vo.toInt ∧ vo.toInt ≤ 3) ∧ zz_v8 (zz_TV σ (h0 + 12)) (zz_TV σ1 (h0 + 12)) (σ1 h0 18).toInt r.toInt (zz_V vo.toInt (zz_DM σ (h0 + 1) dm.toInt.toNat 0) (σ (h0 + 1) (7 + 6 * dm.toInt.toNat + 1)) dm x1))))) (zz_B E) (zz_A E)) 0 0 (zz_A E) := by
  refine zz_met (cc := cX9_voice) (maxL := 5) (ret := (some .int)) (by decide) rfl (Nat.le_of_ble_eq_true rfl) ?_
  intro p e s m args below meth c ls hx hb hr hts hown hlocks hml hK hP hS hl
  have hl : lv_has ls 5 [(0, .ref h0), (1, .int dm), (2, .int vo), (3, .int x1)] := hl
  have hown : s.vm.findClass RX9 = some m.cls := hown
  have hi9 : ∀ w ∈ wsX90, w ∈ wzX9_voice := fun w h => List.mem_cons_of_mem _ (hbw9 w h)
  have k_m1000000006 : ((-1000000006) : Int32).toInt = -1000000006 := by decide +kernel
  have k_m1000000001 : ((-1000000001) : Int32).toInt = -1000000001 := by decide +kernel
  have k_0 : (0 : Int32).toInt = 0 := by decide +kernel
  have k_1 : (1 : Int32).toInt = 1 := by decide +kernel
  have k_2 : (2 : Int32).toInt = 2 := by decide +kernel
  have k_3 : (3 : Int32).toInt = 3 := by decide +kernel
  replace t0 : σ h0 18 = σ h0 18 := rfl
  replace t1 : σ h0 19 = σ h0 19 := rfl
  have hC : zz_ch (fun a k => (a = h0 + 3 ∨ (h0 + 7 ≤ a ∧ a ≤ h0 + 11)) ∨ (a = h0 ∧ (k = 18 ∨ k = 19)) ∨ a = h0 + 12) σ σ := zz_ch.rf σ
  have hI := hJ.1
  obtain ⟨hh, hsl, hd, hp, htc, hwc, hM, hT⟩ := id hI
  have hz5 := hJ.2.2.1
  have htr := hJ.2.2.2
  refine lv_aload_n hx hb dX9_voice_0 rfl (lv_at hl 0 rfl) ?_
  refine lv_iload_n hx hb dX9_voice_1 rfl (lv_at hl 1 rfl) ?_
  refine zz_callVp (As := [.int dm]) (rest := []) ⟨hx, hb, hml, hown, hts⟩ hK hP hS (c_X9_isDream l E σ h0 dm g0 (by exact hd)) (cwV 1 hts gX9_voice_X9_isDream rfl rfl rfl (by decide +kernel) ⟨Nat.le_of_ble_eq_true rfl, Nat.le_of_ble_eq_true rfl⟩) (g0.1) rfl rfl hl.1 rfl (Nat.le_of_ble_eq_true rfl) dX9_voice_2 ⟨Nat.zero_le _, Nat.zero_le _⟩ (fun r1 H locs f1 hP1 hS1 => ?_)
  replace hP := hP1
  replace hS := hS1
  clear hP1 hS1
  refine lv_if_eq (tgt := 17) hx hb dX9_voice_5 (by decide) (fun c2 => ?_) (fun c2 => ?_)
  · have c2 := zz_eqT c2
    refine lv_aload_n hx hb dX9_voice_17 rfl (lv_at hl 0 rfl) ?_
    refine lv_ldc (v := (-1000000001)) hx hb hown (hts (.constant RX9 93 (-1000000001)) (List.mem_cons_of_mem _ bm_138)) dX9_voice_18 ?_
    refine zz_callVi (As := [.int (-1000000001)]) (rest := []) ⟨hx, hb, hml, hown, hts⟩ hK hP hS (c_X9_error l E σ h0 (-1000000001) g0 (by omega)) (cwV 1 hts gX9_voice_X9_error rfl rfl rfl (by decide +kernel) ⟨Nat.le_of_ble_eq_true rfl, Nat.le_of_ble_eq_true rfl⟩) (g0.1) rfl rfl hl.1 rfl (Nat.le_of_ble_eq_true rfl) dX9_voice_20 ⟨Nat.zero_le _, Nat.zero_le _⟩ (fun r3 σ3 H locs q3 hP1 hS1 => ?_)
    replace hP := hP1
    replace hS := hS1
    clear hP1 hS1
    try dsimp only at q3
    obtain ⟨w3, f3⟩ := q3
    replace hC := hC.tr (w3.mono (dS25_7 h0))
    replace t0 : σ3 h0 18 = σ h0 18 := (w3 h0 18 (dS25_8 h0)).trans t0
    replace t1 : σ3 h0 19 = σ h0 19 := (w3 h0 19 (dS25_8 h0)).trans t1
    exact zz_iret hx hb hr hlocks hK hP hS dX9_voice_23 (by exact ⟨hC, ⟨hJ.1.keep (fun k => hC _ _ (by first | (dsimp only; omega) | omega)), hJ.2.1.keep (fun k => hC _ _ (by first | (dsimp only; omega) | omega)), (fun j hj => by rw [hC _ _ (by first | (dsimp only; omega) | omega)]; exact hz5 j hj), (by rw [t0]; omega)⟩, Or.inl ⟨by omega, by omega, zz_TV.eq (fun k _ => w3 _ _ (by first | (dsimp only; omega) | omega)), by rw [t0]⟩⟩)
  · have c2 := zz_neT c2
    refine lv_iload_n hx hb dX9_voice_8 rfl (lv_at hl 2 rfl) ?_
    refine lv_iconst (v := 0) hx hb dX9_voice_9 (by decide) ?_
    refine lv_iconst (v := 3) hx hb dX9_voice_10 (by decide) ?_
    refine zz_callSp (As := [.int vo, .int 0, .int 3]) (rest := []) ⟨hx, hb, hml, hown, hts⟩ hK hP hS (c_X9_in l E σ vo 0 3) (va_cwS 3 hts gX9_voice_X9_in rfl rfl rfl (by decide +kernel) ⟨Nat.le_of_ble_eq_true rfl, Nat.le_of_ble_eq_true rfl⟩) rfl hl.1 rfl (Nat.le_of_ble_eq_true rfl) dX9_voice_11 ⟨Nat.zero_le _, Nat.zero_le _⟩ (fun r4 H locs f4 hP1 hS1 => ?_)
    replace hP := hP1
    replace hS := hS1
    clear hP1 hS1
    refine lv_if_ne (tgt := 24) hx hb dX9_voice_14 (by decide) (fun c5 => ?_) (fun c5 => ?_)
    · have c5 := zz_neT c5
      refine lv_aload_n hx hb dX9_voice_24 rfl (lv_at hl 0 rfl) ?_
      refine lv_iconst (v := 0) hx hb dX9_voice_25 (by decide) ?_
      refine zz_puti (v := 0) (ty := .int) hx hb hts hi9 tyX9 tyX9_ok nmX9 hown hK hP hS (g0.1) rfl 18 (by decide) (hts (.fieldLink RX9 217 "NoonLawModel" "traced" "I") (List.mem_cons_of_mem _ bm_827)) rfl rfl (by decide +kernel) rfl rfl rfl dX9_voice_26 (fun σ6 H locs w6 hP1 hS1 => ?_)
      replace hP := hP1
      replace hS := hS1
      clear hP1 hS1
      replace hC := hC.u w6 (dS25_9 h0)
      replace t0 : σ6 h0 18 = 0 := zz_w1 w6
      replace t1 : σ6 h0 19 = σ h0 19 := (zz_w (b := h0) (j := 19) w6 (fun q9 => absurd q9.2 (by decide))).trans t1
      refine lv_aload_n hx hb dX9_voice_29 rfl (lv_at hl 0 rfl) ?_
      refine lv_iconst (v := 0) hx hb dX9_voice_30 (by decide) ?_
      refine zz_puti (v := 0) (ty := .boolean) hx hb hts hi9 tyX9 tyX9_ok nmX9 hown hK hP hS (g0.1) rfl 19 (by decide) (hts (.fieldLink RX9 244 "NoonLawModel" "isParted" "Z") (List.mem_cons_of_mem _ bm_828)) rfl rfl (by decide +kernel) (zz_nz (by omega)) (zz_fz (by omega)) rfl dX9_voice_31 (fun σ7 H locs w7 hP1 hS1 => ?_)
      replace hP := hP1
      replace hS := hS1
      clear hP1 hS1
      replace hC := hC.u w7 (dS25_10 h0)
      replace t0 : σ7 h0 18 = 0 := (zz_w (b := h0) (j := 18) w7 (fun q9 => absurd q9.2 (by decide))).trans t0
      replace t1 : σ7 h0 19 = 0 := zz_w1 w7
      have u0 : (σ7 h0 18).toInt = 0 := (congrArg Int32.toInt t0).trans k_0
      have hT9 : zz_TV σ7 (h0 + 12) = zz_TV σ (h0 + 12) := zz_TV.eq (fun k _ => by rw [w7, zz_un (by omega), w6, zz_un (by omega)])
      refine lv_iload_n hx hb dX9_voice_34 rfl (lv_at hl 2 rfl) ?_
      refine lv_if_ne (tgt := 47) hx hb dX9_voice_35 (by decide) (fun c8 => ?_) (fun c8 => ?_)
      · have c8 := zz_neT c8
        refine lv_iload_n hx hb dX9_voice_47 rfl (lv_at hl 2 rfl) ?_
        refine lv_iconst (v := 1) hx hb dX9_voice_48 (by decide) ?_
        refine lv_icmp_ne (tgt := 61) hx hb dX9_voice_49 (by decide) (fun c9 => ?_) (fun c9 => ?_)
        · have c9 := zz_neT c9
          refine lv_iload_n hx hb dX9_voice_61 rfl (lv_at hl 2 rfl) ?_
          refine lv_iconst (v := 2) hx hb dX9_voice_62 (by decide) ?_
          refine lv_icmp_ne (tgt := 75) hx hb dX9_voice_63 (by decide) (fun c10 => ?_) (fun c10 => ?_)
          · have c10 := zz_neT c10
            refine lv_aload_n hx hb dX9_voice_75 rfl (lv_at hl 0 rfl) ?_
            refine lv_iload_n hx hb dX9_voice_76 rfl (lv_at hl 1 rfl) ?_
            refine lv_iload_n hx hb dX9_voice_77 rfl (lv_at hl 3 rfl) ?_
            refine zz_callVi (As := [.int dm, .int x1]) (rest := []) ⟨hx, hb, hml, hown, hts⟩ hK hP hS (c_X9_parts l E σ7 h0 dm x1 g0 (by omega) (by first | omega | (rw [t0]; omega)) (zz_DM σ (h0 + 1) dm.toInt.toNat 0) (σ (h0 + 1) (7 + 6 * dm.toInt.toNat + 1)) (by rw [zz_DMk (a := h0 + 1) hC (by intro i h1 h2; first | (dsimp only; omega) | omega)]) (by rw [hC _ _ (by first | (dsimp only; omega) | omega)])) (cwV 2 hts gX9_voice_X9_parts rfl rfl rfl (by decide +kernel) ⟨Nat.le_of_ble_eq_true rfl, Nat.le_of_ble_eq_true rfl⟩) (g0.1) rfl rfl hl.1 rfl (Nat.le_of_ble_eq_true rfl) dX9_voice_78 ⟨Nat.zero_le _, Nat.zero_le _⟩ (fun r11 σ11 H locs q11 hP1 hS1 => ?_)
            replace hP := hP1
            replace hS := hS1
            clear hP1 hS1
            try dsimp only at q11
            obtain ⟨w11, f11⟩ := q11
            replace hC := hC.tr (w11.mono (dS25_11 h0))
            try simp only [t0, t1] at f11
            replace t0 : σ11 h0 18 = σ11 h0 18 := rfl
            replace t1 : σ11 h0 19 = σ11 h0 19 := rfl
            refine lv_istore (lv' := [(4, .int r11), (0, .ref h0), (1, .int dm), (2, .int vo), (3, .int x1)]) hx hb dX9_voice_81 hl (by decide) rfl (fun ls hl => ?_)
            refine lv_aload_n hx hb dX9_voice_83 rfl (lv_at hl 1 rfl) ?_
            refine zz_geti hx hb hts hi9 hown hK hP (g0.1) rfl 19 (by decide) (hts (.fieldLink RX9 244 "NoonLawModel" "isParted" "Z") (List.mem_cons_of_mem _ bm_828)) rfl rfl t1 dX9_voice_84 ?_
            refine lv_if_eq (tgt := 100) hx hb dX9_voice_87 (by decide) (fun c12 => ?_) (fun c12 => ?_)
            · have c12 := zz_eqT c12
              refine lv_iload hx hb dX9_voice_100 (lv_at hl 0 rfl) ?_
              have hV : zz_V vo.toInt (zz_DM σ (h0 + 1) dm.toInt.toNat 0) (σ (h0 + 1) (7 + 6 * dm.toInt.toNat + 1)) dm x1 = zz_pa (zz_DM σ (h0 + 1) dm.toInt.toNat 0) (σ (h0 + 1) (7 + 6 * dm.toInt.toNat + 1)) dm x1 := by unfold zz_V; rw [if_neg (by omega), if_neg (by omega), if_neg (by omega)]
              have g9 := f11.2
              exact zz_iret hx hb hr hlocks hK hP hS dX9_voice_102 (by exact ⟨hC, ⟨hJ.1.keep (fun k => hC _ _ (by first | (dsimp only; omega) | omega)), hJ.2.1.keep (fun k => hC _ _ (by first | (dsimp only; omega) | omega)), (fun j hj => by rw [hC _ _ (by first | (dsimp only; omega) | omega)]; exact hz5 j hj), (by rw [t0]; omega)⟩, Or.inr ⟨by omega, by rw [hV]; exact zz_vm8 u0 hT9 g9.2.1 rfl rfl (fun _ => congrArg Int32.toInt g9.1) (fun z => absurd (g9.2.2.symm.trans (by omega)) z)⟩⟩)
            · have c12 := zz_neT c12
              refine lv_aload_n hx hb dX9_voice_90 rfl (lv_at hl 1 rfl) ?_
              refine lv_ldcw (v := (-1000000006)) hx hb hown (hts (.constant RX9 256 (-1000000006)) (List.mem_cons_of_mem _ bm_829)) dX9_voice_91 ?_
              refine zz_callVi (As := [.int (-1000000006)]) (rest := []) ⟨hx, hb, hml, hown, hts⟩ hK hP hS (c_X9_error l E σ11 h0 (-1000000006) g0 (by omega)) (cwV 1 hts gX9_voice_X9_error rfl rfl rfl (by decide +kernel) ⟨Nat.le_of_ble_eq_true rfl, Nat.le_of_ble_eq_true rfl⟩) (g0.1) rfl rfl hl.1 rfl (Nat.le_of_ble_eq_true rfl) dX9_voice_94 ⟨Nat.zero_le _, Nat.zero_le _⟩ (fun r13 σ13 H locs q13 hP1 hS1 => ?_)
              replace hP := hP1
              replace hS := hS1
              clear hP1 hS1
              try dsimp only at q13
              obtain ⟨w13, f13⟩ := q13
              replace hC := hC.tr (w13.mono (dS25_7 h0))
              replace t0 : σ13 h0 18 = σ11 h0 18 := (w13 h0 18 (dS25_8 h0)).trans t0
              replace t1 : σ13 h0 19 = σ11 h0 19 := (w13 h0 19 (dS25_8 h0)).trans t1
              refine lv_goto (tgt := 102) hx hb dX9_voice_97 (by decide) ?_
              have hV : zz_V vo.toInt (zz_DM σ (h0 + 1) dm.toInt.toNat 0) (σ (h0 + 1) (7 + 6 * dm.toInt.toNat + 1)) dm x1 = zz_pa (zz_DM σ (h0 + 1) dm.toInt.toNat 0) (σ (h0 + 1) (7 + 6 * dm.toInt.toNat + 1)) dm x1 := by unfold zz_V; rw [if_neg (by omega), if_neg (by omega), if_neg (by omega)]
              have g9 := f11.2
              exact zz_iret hx hb hr hlocks hK hP hS dX9_voice_102 (by exact ⟨hC, ⟨hJ.1.keep (fun k => hC _ _ (by first | (dsimp only; omega) | omega)), hJ.2.1.keep (fun k => hC _ _ (by first | (dsimp only; omega) | omega)), (fun j hj => by rw [hC _ _ (by first | (dsimp only; omega) | omega)]; exact hz5 j hj), (by rw [t0]; omega)⟩, Or.inr ⟨by omega, by rw [hV]; exact zz_vm8 u0 hT9 g9.2.1 (zz_TV.eq (fun k _ => w13 _ _ (by first | (dsimp only; omega) | omega))) (congrArg Int32.toInt (w13 _ _ (by first | (dsimp only; omega) | omega))) (fun z => absurd (g9.2.2.trans z) (by omega)) (fun _ => by omega)⟩⟩)
          · have c10 := zz_eqT c10
            refine lv_aload_n hx hb dX9_voice_66 rfl (lv_at hl 0 rfl) ?_
            refine lv_iload_n hx hb dX9_voice_67 rfl (lv_at hl 1 rfl) ?_
            refine lv_iload_n hx hb dX9_voice_68 rfl (lv_at hl 3 rfl) ?_
            refine zz_callVi (As := [.int dm, .int x1]) (rest := []) ⟨hx, hb, hml, hown, hts⟩ hK hP hS (c_X9_snores l E σ7 h0 dm x1 g0 (by omega) (by first | omega | (rw [t0]; omega)) (zz_DM σ (h0 + 1) dm.toInt.toNat 0) (σ (h0 + 1) (7 + 6 * dm.toInt.toNat + 1)) (by rw [zz_DMk (a := h0 + 1) hC (by intro i h1 h2; first | (dsimp only; omega) | omega)]) (by rw [hC _ _ (by first | (dsimp only; omega) | omega)])) (cwV 2 hts gX9_voice_X9_snores rfl rfl rfl (by decide +kernel) ⟨Nat.le_of_ble_eq_true rfl, Nat.le_of_ble_eq_true rfl⟩) (g0.1) rfl rfl hl.1 rfl (Nat.le_of_ble_eq_true rfl) dX9_voice_69 ⟨Nat.zero_le _, Nat.zero_le _⟩ (fun r14 σ14 H locs q14 hP1 hS1 => ?_)
            replace hP := hP1
            replace hS := hS1
            clear hP1 hS1
            try dsimp only at q14
            obtain ⟨w14, f14⟩ := q14
            replace hC := hC.tr (w14.mono (dS25_12 h0))
            try simp only [t0, t1] at f14
            replace t0 : σ14 h0 18 = σ14 h0 18 := rfl
            replace t1 : σ14 h0 19 = 0 := (w14 h0 19 (dS25_4 h0)).trans t1
            refine lv_goto (tgt := 81) hx hb dX9_voice_72 (by decide) ?_
            refine lv_istore (lv' := [(4, .int r14), (0, .ref h0), (1, .int dm), (2, .int vo), (3, .int x1)]) hx hb dX9_voice_81 hl (by decide) rfl (fun ls hl => ?_)
            refine lv_aload_n hx hb dX9_voice_83 rfl (lv_at hl 1 rfl) ?_
            refine zz_geti hx hb hts hi9 hown hK hP (g0.1) rfl 19 (by decide) (hts (.fieldLink RX9 244 "NoonLawModel" "isParted" "Z") (List.mem_cons_of_mem _ bm_828)) rfl rfl t1 dX9_voice_84 ?_
            refine lv_if_eq (tgt := 100) hx hb dX9_voice_87 (by decide) (fun c15 => ?_) (fun c15 => ?_)
            · have c15 := zz_eqT c15
              refine lv_iload hx hb dX9_voice_100 (lv_at hl 0 rfl) ?_
              have hV : zz_V vo.toInt (zz_DM σ (h0 + 1) dm.toInt.toNat 0) (σ (h0 + 1) (7 + 6 * dm.toInt.toNat + 1)) dm x1 = ((zz_sn (zz_DM σ (h0 + 1) dm.toInt.toNat 0) (σ (h0 + 1) (7 + 6 * dm.toInt.toNat + 1)) dm x1).1, (zz_sn (zz_DM σ (h0 + 1) dm.toInt.toNat 0) (σ (h0 + 1) (7 + 6 * dm.toInt.toNat + 1)) dm x1).2, 0) := by unfold zz_V; rw [if_neg (by omega), if_neg (by omega), if_pos (by omega)]
              exact zz_iret hx hb hr hlocks hK hP hS dX9_voice_102 (by exact ⟨hC, ⟨hJ.1.keep (fun k => hC _ _ (by first | (dsimp only; omega) | omega)), hJ.2.1.keep (fun k => hC _ _ (by first | (dsimp only; omega) | omega)), (fun j hj => by rw [hC _ _ (by first | (dsimp only; omega) | omega)]; exact hz5 j hj), (by rw [t0]; omega)⟩, Or.inr ⟨by omega, by rw [hV]; exact zz_vm8 u0 hT9 f14.2.2 rfl rfl (fun _ => congrArg Int32.toInt f14.2.1) (fun z => absurd rfl z)⟩⟩)
            · have c15 := zz_neT c15
              refine lv_aload_n hx hb dX9_voice_90 rfl (lv_at hl 1 rfl) ?_
              refine lv_ldcw (v := (-1000000006)) hx hb hown (hts (.constant RX9 256 (-1000000006)) (List.mem_cons_of_mem _ bm_829)) dX9_voice_91 ?_
              refine zz_callVi (As := [.int (-1000000006)]) (rest := []) ⟨hx, hb, hml, hown, hts⟩ hK hP hS (c_X9_error l E σ14 h0 (-1000000006) g0 (by omega)) (cwV 1 hts gX9_voice_X9_error rfl rfl rfl (by decide +kernel) ⟨Nat.le_of_ble_eq_true rfl, Nat.le_of_ble_eq_true rfl⟩) (g0.1) rfl rfl hl.1 rfl (Nat.le_of_ble_eq_true rfl) dX9_voice_94 ⟨Nat.zero_le _, Nat.zero_le _⟩ (fun r16 σ16 H locs q16 hP1 hS1 => ?_)
              replace hP := hP1
              replace hS := hS1
              clear hP1 hS1
              try dsimp only at q16
              obtain ⟨w16, f16⟩ := q16
              replace hC := hC.tr (w16.mono (dS25_7 h0))
              try simp only [t1] at f16
              replace t0 : σ16 h0 18 = σ14 h0 18 := (w16 h0 18 (dS25_8 h0)).trans t0
              replace t1 : σ16 h0 19 = 0 := (w16 h0 19 (dS25_8 h0)).trans t1
              refine lv_goto (tgt := 102) hx hb dX9_voice_97 (by decide) ?_
              exact zz_iret hx hb hr hlocks hK hP hS dX9_voice_102 (by exfalso; omega)
        · have c9 := zz_eqT c9
          refine lv_aload_n hx hb dX9_voice_52 rfl (lv_at hl 0 rfl) ?_
          refine lv_iload_n hx hb dX9_voice_53 rfl (lv_at hl 1 rfl) ?_
          refine lv_iload_n hx hb dX9_voice_54 rfl (lv_at hl 3 rfl) ?_
          refine zz_callVi (As := [.int dm, .int x1]) (rest := []) ⟨hx, hb, hml, hown, hts⟩ hK hP hS (c_X9_sighs l E σ7 h0 dm x1 g0 (by omega) (by first | omega | (rw [t0]; omega)) (zz_DM σ (h0 + 1) dm.toInt.toNat 0) (σ (h0 + 1) (7 + 6 * dm.toInt.toNat + 1)) (by rw [zz_DMk (a := h0 + 1) hC (by intro i h1 h2; first | (dsimp only; omega) | omega)]) (by rw [hC _ _ (by first | (dsimp only; omega) | omega)])) (cwV 2 hts gX9_voice_X9_sighs rfl rfl rfl (by decide +kernel) ⟨Nat.le_of_ble_eq_true rfl, Nat.le_of_ble_eq_true rfl⟩) (g0.1) rfl rfl hl.1 rfl (Nat.le_of_ble_eq_true rfl) dX9_voice_55 ⟨Nat.zero_le _, Nat.zero_le _⟩ (fun r17 σ17 H locs q17 hP1 hS1 => ?_)
          replace hP := hP1
          replace hS := hS1
          clear hP1 hS1
          try dsimp only at q17
          obtain ⟨w17, f17⟩ := q17
          replace hC := hC.tr (w17.mono (dS25_12 h0))
          try simp only [t0, t1] at f17
          replace t0 : σ17 h0 18 = σ17 h0 18 := rfl
          replace t1 : σ17 h0 19 = 0 := (w17 h0 19 (dS25_4 h0)).trans t1
          refine lv_goto (tgt := 81) hx hb dX9_voice_58 (by decide) ?_
          refine lv_istore (lv' := [(4, .int r17), (0, .ref h0), (1, .int dm), (2, .int vo), (3, .int x1)]) hx hb dX9_voice_81 hl (by decide) rfl (fun ls hl => ?_)
          refine lv_aload_n hx hb dX9_voice_83 rfl (lv_at hl 1 rfl) ?_
          refine zz_geti hx hb hts hi9 hown hK hP (g0.1) rfl 19 (by decide) (hts (.fieldLink RX9 244 "NoonLawModel" "isParted" "Z") (List.mem_cons_of_mem _ bm_828)) rfl rfl t1 dX9_voice_84 ?_
          refine lv_if_eq (tgt := 100) hx hb dX9_voice_87 (by decide) (fun c18 => ?_) (fun c18 => ?_)
          · have c18 := zz_eqT c18
            refine lv_iload hx hb dX9_voice_100 (lv_at hl 0 rfl) ?_
            have hV : zz_V vo.toInt (zz_DM σ (h0 + 1) dm.toInt.toNat 0) (σ (h0 + 1) (7 + 6 * dm.toInt.toNat + 1)) dm x1 = ((zz_si (zz_DM σ (h0 + 1) dm.toInt.toNat 0) (σ (h0 + 1) (7 + 6 * dm.toInt.toNat + 1)) dm x1).1, (zz_si (zz_DM σ (h0 + 1) dm.toInt.toNat 0) (σ (h0 + 1) (7 + 6 * dm.toInt.toNat + 1)) dm x1).2, 0) := by unfold zz_V; rw [if_neg (by omega), if_pos (by omega)]
            exact zz_iret hx hb hr hlocks hK hP hS dX9_voice_102 (by exact ⟨hC, ⟨hJ.1.keep (fun k => hC _ _ (by first | (dsimp only; omega) | omega)), hJ.2.1.keep (fun k => hC _ _ (by first | (dsimp only; omega) | omega)), (fun j hj => by rw [hC _ _ (by first | (dsimp only; omega) | omega)]; exact hz5 j hj), (by rw [t0]; omega)⟩, Or.inr ⟨by omega, by rw [hV]; exact zz_vm8 u0 hT9 f17.2.2 rfl rfl (fun _ => congrArg Int32.toInt f17.2.1) (fun z => absurd rfl z)⟩⟩)
          · have c18 := zz_neT c18
            refine lv_aload_n hx hb dX9_voice_90 rfl (lv_at hl 1 rfl) ?_
            refine lv_ldcw (v := (-1000000006)) hx hb hown (hts (.constant RX9 256 (-1000000006)) (List.mem_cons_of_mem _ bm_829)) dX9_voice_91 ?_
            refine zz_callVi (As := [.int (-1000000006)]) (rest := []) ⟨hx, hb, hml, hown, hts⟩ hK hP hS (c_X9_error l E σ17 h0 (-1000000006) g0 (by omega)) (cwV 1 hts gX9_voice_X9_error rfl rfl rfl (by decide +kernel) ⟨Nat.le_of_ble_eq_true rfl, Nat.le_of_ble_eq_true rfl⟩) (g0.1) rfl rfl hl.1 rfl (Nat.le_of_ble_eq_true rfl) dX9_voice_94 ⟨Nat.zero_le _, Nat.zero_le _⟩ (fun r19 σ19 H locs q19 hP1 hS1 => ?_)
            replace hP := hP1
            replace hS := hS1
            clear hP1 hS1
            try dsimp only at q19
            obtain ⟨w19, f19⟩ := q19
            replace hC := hC.tr (w19.mono (dS25_7 h0))
            try simp only [t1] at f19
            replace t0 : σ19 h0 18 = σ17 h0 18 := (w19 h0 18 (dS25_8 h0)).trans t0
            replace t1 : σ19 h0 19 = 0 := (w19 h0 19 (dS25_8 h0)).trans t1
            refine lv_goto (tgt := 102) hx hb dX9_voice_97 (by decide) ?_
            exact zz_iret hx hb hr hlocks hK hP hS dX9_voice_102 (by exfalso; omega)
      · have c8 := zz_eqT c8
        refine lv_aload_n hx hb dX9_voice_38 rfl (lv_at hl 0 rfl) ?_
        refine lv_iload_n hx hb dX9_voice_39 rfl (lv_at hl 1 rfl) ?_
        refine lv_iload_n hx hb dX9_voice_40 rfl (lv_at hl 3 rfl) ?_
        refine zz_callVi (As := [.int dm, .int x1]) (rest := []) ⟨hx, hb, hml, hown, hts⟩ hK hP hS (c_X9_mutters l E σ7 h0 dm x1 g0 (by omega) (by first | omega | (rw [t0]; omega)) (zz_DM σ (h0 + 1) dm.toInt.toNat 0) (σ (h0 + 1) (7 + 6 * dm.toInt.toNat + 1)) (by rw [zz_DMk (a := h0 + 1) hC (by intro i h1 h2; first | (dsimp only; omega) | omega)]) (by rw [hC _ _ (by first | (dsimp only; omega) | omega)])) (cwV 2 hts gX9_voice_X9_mutters rfl rfl rfl (by decide +kernel) ⟨Nat.le_of_ble_eq_true rfl, Nat.le_of_ble_eq_true rfl⟩) (g0.1) rfl rfl hl.1 rfl (Nat.le_of_ble_eq_true rfl) dX9_voice_41 ⟨Nat.zero_le _, Nat.zero_le _⟩ (fun r20 σ20 H locs q20 hP1 hS1 => ?_)
        replace hP := hP1
        replace hS := hS1
        clear hP1 hS1
        try dsimp only at q20
        obtain ⟨w20, f20⟩ := q20
        replace hC := hC.tr (w20.mono (dS25_12 h0))
        try simp only [t0, t1] at f20
        replace t0 : σ20 h0 18 = σ20 h0 18 := rfl
        replace t1 : σ20 h0 19 = 0 := (w20 h0 19 (dS25_4 h0)).trans t1
        refine lv_goto (tgt := 81) hx hb dX9_voice_44 (by decide) ?_
        refine lv_istore (lv' := [(4, .int r20), (0, .ref h0), (1, .int dm), (2, .int vo), (3, .int x1)]) hx hb dX9_voice_81 hl (by decide) rfl (fun ls hl => ?_)
        refine lv_aload_n hx hb dX9_voice_83 rfl (lv_at hl 1 rfl) ?_
        refine zz_geti hx hb hts hi9 hown hK hP (g0.1) rfl 19 (by decide) (hts (.fieldLink RX9 244 "NoonLawModel" "isParted" "Z") (List.mem_cons_of_mem _ bm_828)) rfl rfl t1 dX9_voice_84 ?_
        refine lv_if_eq (tgt := 100) hx hb dX9_voice_87 (by decide) (fun c21 => ?_) (fun c21 => ?_)
        · have c21 := zz_eqT c21
          refine lv_iload hx hb dX9_voice_100 (lv_at hl 0 rfl) ?_
          have hV : zz_V vo.toInt (zz_DM σ (h0 + 1) dm.toInt.toNat 0) (σ (h0 + 1) (7 + 6 * dm.toInt.toNat + 1)) dm x1 = ((zz_mu (zz_DM σ (h0 + 1) dm.toInt.toNat 0) dm x1).1, (zz_mu (zz_DM σ (h0 + 1) dm.toInt.toNat 0) dm x1).2, 0) := by unfold zz_V; rw [if_pos (by omega)]
          exact zz_iret hx hb hr hlocks hK hP hS dX9_voice_102 (by exact ⟨hC, ⟨hJ.1.keep (fun k => hC _ _ (by first | (dsimp only; omega) | omega)), hJ.2.1.keep (fun k => hC _ _ (by first | (dsimp only; omega) | omega)), (fun j hj => by rw [hC _ _ (by first | (dsimp only; omega) | omega)]; exact hz5 j hj), (by rw [t0]; omega)⟩, Or.inr ⟨by omega, by rw [hV]; exact zz_vm8 u0 hT9 f20.2.2 rfl rfl (fun _ => congrArg Int32.toInt f20.2.1) (fun z => absurd rfl z)⟩⟩)
        · have c21 := zz_neT c21
          refine lv_aload_n hx hb dX9_voice_90 rfl (lv_at hl 1 rfl) ?_
          refine lv_ldcw (v := (-1000000006)) hx hb hown (hts (.constant RX9 256 (-1000000006)) (List.mem_cons_of_mem _ bm_829)) dX9_voice_91 ?_
          refine zz_callVi (As := [.int (-1000000006)]) (rest := []) ⟨hx, hb, hml, hown, hts⟩ hK hP hS (c_X9_error l E σ20 h0 (-1000000006) g0 (by omega)) (cwV 1 hts gX9_voice_X9_error rfl rfl rfl (by decide +kernel) ⟨Nat.le_of_ble_eq_true rfl, Nat.le_of_ble_eq_true rfl⟩) (g0.1) rfl rfl hl.1 rfl (Nat.le_of_ble_eq_true rfl) dX9_voice_94 ⟨Nat.zero_le _, Nat.zero_le _⟩ (fun r22 σ22 H locs q22 hP1 hS1 => ?_)
          replace hP := hP1
          replace hS := hS1
          clear hP1 hS1
          try dsimp only at q22
          obtain ⟨w22, f22⟩ := q22
          replace hC := hC.tr (w22.mono (dS25_7 h0))
          try simp only [t1] at f22
          replace t0 : σ22 h0 18 = σ20 h0 18 := (w22 h0 18 (dS25_8 h0)).trans t0
          replace t1 : σ22 h0 19 = 0 := (w22 h0 19 (dS25_8 h0)).trans t1
          refine lv_goto (tgt := 102) hx hb dX9_voice_97 (by decide) ?_
          exact zz_iret hx hb hr hlocks hK hP hS dX9_voice_102 (by exfalso; omega)
    · have c5 := zz_eqT c5
      refine lv_aload_n hx hb dX9_voice_17 rfl (lv_at hl 0 rfl) ?_
      refine lv_ldc (v := (-1000000001)) hx hb hown (hts (.constant RX9 93 (-1000000001)) (List.mem_cons_of_mem _ bm_138)) dX9_voice_18 ?_
      refine zz_callVi (As := [.int (-1000000001)]) (rest := []) ⟨hx, hb, hml, hown, hts⟩ hK hP hS (c_X9_error l E σ h0 (-1000000001) g0 (by omega)) (cwV 1 hts gX9_voice_X9_error rfl rfl rfl (by decide +kernel) ⟨Nat.le_of_ble_eq_true rfl, Nat.le_of_ble_eq_true rfl⟩) (g0.1) rfl rfl hl.1 rfl (Nat.le_of_ble_eq_true rfl) dX9_voice_20 ⟨Nat.zero_le _, Nat.zero_le _⟩ (fun r23 σ23 H locs q23 hP1 hS1 => ?_)
      replace hP := hP1
      replace hS := hS1
      clear hP1 hS1
      try dsimp only at q23
      obtain ⟨w23, f23⟩ := q23
      replace hC := hC.tr (w23.mono (dS25_7 h0))
      replace t0 : σ23 h0 18 = σ h0 18 := (w23 h0 18 (dS25_8 h0)).trans t0
      replace t1 : σ23 h0 19 = σ h0 19 := (w23 h0 19 (dS25_8 h0)).trans t1
      exact zz_iret hx hb hr hlocks hK hP hS dX9_voice_23 (by exact ⟨hC, ⟨hJ.1.keep (fun k => hC _ _ (by first | (dsimp only; omega) | omega)), hJ.2.1.keep (fun k => hC _ _ (by first | (dsimp only; omega) | omega)), (fun j hj => by rw [hC _ _ (by first | (dsimp only; omega) | omega)]; exact hz5 j hj), (by rw [t0]; omega)⟩, Or.inl ⟨by omega, by omega, zz_TV.eq (fun k _ => w23 _ _ (by first | (dsimp only; omega) | omega)), by rw [t0]⟩⟩)
