theorem gX4_guilt_J6_bitCount_0f7a4 : GoodIn wzX4_guilt (va_wsS RX4 78 yJ6_bitCount_0f7a4 wzJ6_bitCount_0f7a4) := wz_co bm_360 (wz_co bm_361 (wz_co bm_362 (wz_in bm_363)))
set_option maxHeartbeats 4000000 in
set_option maxRecDepth 100000 in
theorem c_X4_guilt (l : Launch) (E : zz_E) (σ : zz_S) (h0 : Nat) (w : Int32) (g0 : zz_Si E h0) (K : zy_W) (hh9 : Int) (hS9 : zy_SG σ h0 K hh9) : Met l yX4_guilt wzX4_guilt ({ frames := 1, cells := 0, slots := 0, locals := 20 }) (va_Pc [.ref h0, .int w] (zz_B E σ)) (va_Qi (fun r σ1 => σ1 = σ ∧ (r.toInt = zy_gl K hh9 w)) (zz_B E) (zz_A E)) 0 0 (zz_A E) := by
  refine zz_met (cc := cX4_guilt) (maxL := 2) (ret := (some .int)) (by decide) rfl (Nat.le_of_ble_eq_true rfl) ?_
  intro p e s m args below meth c ls hx hb hr hts hown hlocks hml hK hP hS hl
  have hl : lv_has ls 2 [(0, .ref h0), (1, .int w)] := hl
  have hown : s.vm.findClass RX4 = some m.cls := hown
  have hi4 : ∀ w ∈ wsX40, w ∈ wzX4_guilt := fun w h => List.mem_cons_of_mem _ (hbw4 w h)
  have k_m1 : ((-1) : Int32).toInt = -1 := by decide +kernel
  refine lv_aload_n hx hb dX4_guilt_0 rfl (lv_at hl 0 rfl) ?_
  refine zz_geti hx hb hts hi4 hown hK hP (g0.1) rfl 2 (by decide) (hts (.fieldLink RX4 72 "NoonLaw$Sight" "banned" "I") (List.mem_cons_of_mem _ bm_354)) rfl rfl rfl dX4_guilt_1 ?_
  refine lv_iload_n hx hb dX4_guilt_4 rfl (lv_at hl 1 rfl) ?_
  refine lv_iand hx hb dX4_guilt_5 ?_
  refine lv_topi (fun n1 e1 => ?_)
  refine zz_callSp (As := [.int n1]) (rest := []) ⟨hx, hb, hml, hown, hts⟩ hK hP hS (c_J6_bitCount_0f7a4 l E σ n1) (va_cwS 1 hts gX4_guilt_J6_bitCount_0f7a4 rfl rfl rfl (by decide +kernel) ⟨Nat.le_of_ble_eq_true rfl, Nat.le_of_ble_eq_true rfl⟩) rfl hl.1 rfl (Nat.le_of_ble_eq_true rfl) dX4_guilt_6 ⟨Nat.zero_le _, Nat.zero_le _⟩ (fun r2 H locs f2 hP1 hS1 => ?_)
  replace hP := hP1
  replace hS := hS1
  clear hP1 hS1
  refine lv_aload_n hx hb dX4_guilt_9 rfl (lv_at hl 0 rfl) ?_
  refine zz_geti hx hb hts hi4 hown hK hP (g0.1) rfl 1 (by decide) (hts (.fieldLink RX4 69 "NoonLaw$Sight" "bidden" "I") (List.mem_cons_of_mem _ bm_353)) rfl rfl rfl dX4_guilt_10 ?_
  refine lv_iload_n hx hb dX4_guilt_13 rfl (lv_at hl 1 rfl) ?_
  refine lv_iconst (v := (-1)) hx hb dX4_guilt_14 (by decide) ?_
  refine lv_ixor hx hb dX4_guilt_15 ?_
  refine lv_topi (fun n3 e3 => ?_)
  refine lv_iand hx hb dX4_guilt_16 ?_
  refine lv_topi (fun n4 e4 => ?_)
  refine zz_callSp (As := [.int n4]) (rest := [.int r2]) ⟨hx, hb, hml, hown, hts⟩ hK hP hS (c_J6_bitCount_0f7a4 l E σ n4) (va_cwS 1 hts gX4_guilt_J6_bitCount_0f7a4 rfl rfl rfl (by decide +kernel) ⟨Nat.le_of_ble_eq_true rfl, Nat.le_of_ble_eq_true rfl⟩) rfl hl.1 rfl (Nat.le_of_ble_eq_true rfl) dX4_guilt_17 ⟨Nat.zero_le _, Nat.zero_le _⟩ (fun r5 H locs f5 hP1 hS1 => ?_)
  replace hP := hP1
  replace hS := hS1
  clear hP1 hS1
  have hb1 := zy_and_rng hS9.r2 e1
  have hb4 := zy_and_rng hS9.r1 e4
  have g2 := zy_bc_pc hb1 f2
  have g5 := zy_bc_pc hb4 f5
  have p2 := zy_pc_rng hb1
  have p5 := zy_pc_rng hb4
  refine lv_iadd hx hb dX4_guilt_20 ?_
  refine lv_topi (fun n6 e6 => ?_)
  have f6 : n6.toInt = (r2).toInt + (r5).toInt := zz_addT e6 (by omega) (by omega)
  exact zz_iret hx hb hr hlocks hK hP hS dX4_guilt_21 (by exact ⟨rfl, hS9.gl e1 e3 e4 (by omega)⟩)
set_option maxHeartbeats 4000000 in
set_option maxRecDepth 100000 in
theorem c_X4_under (l : Launch) (E : zz_E) (σ : zz_S) (h0 : Nat) (mt : Int32) (g0 : zz_Si E h0) (K : zy_W) (hh9 : Int) (hS9 : zy_SG σ h0 K hh9) (hm9 : 0 ≤ mt.toInt ∧ mt.toInt ≤ 9) : Met l yX4_under wzX4_under ({ frames := 0, cells := 0, slots := 0, locals := 0 }) (va_Pc [.ref h0, .int mt] (zz_B E σ)) (va_Qi (fun r σ1 => σ1 = σ ∧ (r.toInt = zy_u K hh9 mt.toInt)) (zz_B E) (zz_A E)) 0 0 (zz_A E) := by
  refine zz_met (cc := cX4_under) (maxL := 3) (ret := (some .int)) (by decide) rfl (Nat.le_of_ble_eq_true rfl) ?_
  intro p e s m args below meth c ls hx hb hr hts hown hlocks hml hK hP hS hl
  have hl : lv_has ls 3 [(0, .ref h0), (1, .int mt)] := hl
  have hown : s.vm.findClass RX4 = some m.cls := hown
  have hi4 : ∀ w ∈ wsX40, w ∈ wzX4_under := fun w h => List.mem_cons_of_mem _ (hbw4 w h)
  have k_m1 : ((-1) : Int32).toInt = -1 := by decide +kernel
  have k_0 : (0 : Int32).toInt = 0 := by decide +kernel
  have k_1 : (1 : Int32).toInt = 1 := by decide +kernel
  refine lv_iconst (v := 1) hx hb dX4_under_0 (by decide) ?_
  refine lv_iload_n hx hb dX4_under_1 rfl (lv_at hl 1 rfl) ?_
  refine lv_ishl hx hb dX4_under_2 ?_
  refine lv_topi (fun n1 e1 => ?_)
  refine lv_istore_n (lv' := [(2, .int n1), (0, .ref h0), (1, .int mt)]) hx hb dX4_under_3 rfl hl (by decide) rfl (fun ls hl => ?_)
  refine lv_aload_n hx hb dX4_under_4 rfl (lv_at hl 1 rfl) ?_
  refine zz_geti hx hb hts hi4 hown hK hP (g0.1) rfl 1 (by decide) (hts (.fieldLink RX4 69 "NoonLaw$Sight" "bidden" "I") (List.mem_cons_of_mem _ bm_353)) rfl rfl rfl dX4_under_5 ?_
  refine lv_iload_n hx hb dX4_under_8 rfl (lv_at hl 0 rfl) ?_
  refine lv_iand hx hb dX4_under_9 ?_
  refine lv_topi (fun n2 e2 => ?_)
  refine lv_if_eq (tgt := 15) hx hb dX4_under_10 (by decide) (fun c3 => ?_) (fun c3 => ?_)
  · have c3 := zz_eqT c3
    refine lv_aload_n hx hb dX4_under_15 rfl (lv_at hl 1 rfl) ?_
    refine zz_geti hx hb hts hi4 hown hK hP (g0.1) rfl 2 (by decide) (hts (.fieldLink RX4 72 "NoonLaw$Sight" "banned" "I") (List.mem_cons_of_mem _ bm_354)) rfl rfl rfl dX4_under_16 ?_
    refine lv_iload_n hx hb dX4_under_19 rfl (lv_at hl 0 rfl) ?_
    refine lv_iand hx hb dX4_under_20 ?_
    refine lv_topi (fun n4 e4 => ?_)
    skip
    refine lv_if_eq (tgt := 28) hx hb dX4_under_21 (by decide) (fun c5 => ?_) (fun c5 => ?_)
    · have c5 := zz_eqT c5
      refine lv_iconst (v := (-1)) hx hb dX4_under_28 (by decide) ?_
      exact zz_iret hx hb hr hlocks hK hP hS dX4_under_29 (by exact ⟨rfl, hS9.free hm9 e1 e2 e4 (by omega) (by omega) k_m1⟩)
    · have c5 := zz_neT c5
      refine lv_iconst (v := 0) hx hb dX4_under_24 (by decide) ?_
      refine lv_goto (tgt := 29) hx hb dX4_under_25 (by decide) ?_
      exact zz_iret hx hb hr hlocks hK hP hS dX4_under_29 (by exact ⟨rfl, hS9.noo hm9 e1 e4 (by omega) k_0⟩)
  · have c3 := zz_neT c3
    refine lv_iconst (v := 1) hx hb dX4_under_13 (by decide) ?_
    exact zz_iret hx hb hr hlocks hK hP hS dX4_under_14 (by exact ⟨rfl, hS9.yes hm9 e1 e2 (by omega) k_1⟩)
set_option maxHeartbeats 4000000 in
set_option maxRecDepth 100000 in
theorem c_X4_isLeft (l : Launch) (E : zz_E) (σ : zz_S) (h0 : Nat) (dr : Int32) (st : Int32) (g0 : zz_Si E h0) (K : zy_W) (hh9 : Int) (hS9 : zy_SG σ h0 K hh9) (hc9 : 0 ≤ K.2.2.1 ∧ K.2.2.1 ≤ 9) (hdr : 0 ≤ dr.toInt ∧ dr.toInt < K.2.2.1) : Met l yX4_isLeft wzX4_isLeft ({ frames := 0, cells := 0, slots := 0, locals := 0 }) (va_Pc [.ref h0, .int dr, .int st] (zz_B E σ)) (va_Qi (fun r σ1 => σ1 = σ ∧ (zy_bt r.toInt (zy_F K hh9 dr.toInt.toNat ∧ ¬ zy_tb st dr.toInt.toNat))) (zz_B E) (zz_A E)) 0 0 (zz_A E) := by
  refine zz_met (cc := cX4_isLeft) (maxL := 3) (ret := (some .boolean)) (by decide) rfl (Nat.le_of_ble_eq_true rfl) ?_
  intro p e s m args below meth c ls hx hb hr hts hown hlocks hml hK hP hS hl
  have hl : lv_has ls 3 [(0, .ref h0), (1, .int dr), (2, .int st)] := hl
  have hown : s.vm.findClass RX4 = some m.cls := hown
  have hi4 : ∀ w ∈ wsX40, w ∈ wzX4_isLeft := fun w h => List.mem_cons_of_mem _ (hbw4 w h)
  have k_m1 : ((-1) : Int32).toInt = -1 := by decide +kernel
  have k_0 : (0 : Int32).toInt = 0 := by decide +kernel
  have k_1 : (1 : Int32).toInt = 1 := by decide +kernel
  refine lv_aload_n hx hb dX4_isLeft_0 rfl (lv_at hl 0 rfl) ?_
  refine zz_geti hx hb hts hi4 hown hK hP (g0.1) rfl 0 (by decide) (hts (.fieldLink RX4 25 "NoonLaw$Sight" "inForce" "I") (List.mem_cons_of_mem _ bm_338)) rfl rfl rfl dX4_isLeft_1 ?_
  refine lv_iload_n hx hb dX4_isLeft_4 rfl (lv_at hl 2 rfl) ?_
  refine lv_iconst (v := (-1)) hx hb dX4_isLeft_5 (by decide) ?_
  refine lv_ixor hx hb dX4_isLeft_6 ?_
  refine lv_topi (fun n1 e1 => ?_)
  refine lv_iand hx hb dX4_isLeft_7 ?_
  refine lv_topi (fun n2 e2 => ?_)
  refine lv_iload_n hx hb dX4_isLeft_8 rfl (lv_at hl 1 rfl) ?_
  refine lv_ishr hx hb dX4_isLeft_9 ?_
  refine lv_topi (fun n3 e3 => ?_)
  refine lv_iconst (v := 1) hx hb dX4_isLeft_10 (by decide) ?_
  refine lv_iand hx hb dX4_isLeft_11 ?_
  refine lv_topi (fun n4 e4 => ?_)
  have hb9 := zy_tb_shr (zy_and_rng (by rw [hS9.1]; exact zy_st_rng _ (by omega)) e2) (m := dr.toInt.toNat) (i := dr) (by omega) (by omega) e3 e4
  have hq9 : zy_tb n2 dr.toInt.toNat ↔ (zy_F K hh9 dr.toInt.toNat ∧ ¬ zy_tb st dr.toInt.toNat) := by
    rw [zy_tb_and e2, zy_tb_not (by omega) e1, hS9.1, zy_tb_st _ (by omega)]
    exact ⟨fun z => ⟨z.1.2, z.2⟩, fun z => ⟨⟨by omega, z.1⟩, z.2⟩⟩
  refine lv_if_eq (tgt := 19) hx hb dX4_isLeft_12 (by decide) (fun c5 => ?_) (fun c5 => ?_)
  · have c5 := zz_eqT c5
    refine lv_iconst (v := 0) hx hb dX4_isLeft_19 (by decide) ?_
    exact zz_zret hx hb hr hlocks hK hP hS dX4_isLeft_20 (zz_01 (by omega)) (by exact ⟨rfl, Or.inr ⟨k_0, fun z => hb9.n (by omega) (hq9.mpr z)⟩⟩)
  · have c5 := zz_neT c5
    refine lv_iconst (v := 1) hx hb dX4_isLeft_15 (by decide) ?_
    refine lv_goto (tgt := 20) hx hb dX4_isLeft_16 (by decide) ?_
    exact zz_zret hx hb hr hlocks hK hP hS dX4_isLeft_20 (zz_01 (by omega)) (by exact ⟨rfl, Or.inl ⟨k_1, hq9.mp (hb9.y (by omega))⟩⟩)
theorem gX2_fine_X4_guilt : GoodIn wzX2_fine (wsV RX2 136 RX4 yX4_guilt wzX4_guilt) := wz_co bm_372 (wz_co bm_357 (wz_co bm_358 (wz_co bm_30 (wz_in bm_359))))
theorem gX2_fine_X2_gives : GoodIn wzX2_fine (wsV RX2 132 RX2 yX2_gives wzX2_gives) := wz_co bm_206 (wz_co bm_207 (wz_co bm_208 (wz_co bm_15 (wz_in bm_209))))
theorem dS8_1 (x0 : Nat) : ∀ a k : Nat, (a = (x0) + 23 ∨ a = (x0) + 26) → (a = x0 + 23 ∨ a = x0 + 26) := by intro a k h; omega
set_option maxHeartbeats 4000000 in
set_option maxRecDepth 100000 in
theorem c_X2_fine (l : Launch) (E : zz_E) (σ : zz_S) (h0 : Nat) (h1 : Nat) (nr : Int32) (h2 : Nat) (g0 : zz_R E h0) (g_h1 : zz_Pn E h1) (g_h2 : zz_Si E h2) (ht : ∀ j : Nat, j < 2 → 0 ≤ (σ (h0 + 21 + 3 * j) 1).toInt ∧ (σ (h0 + 21 + 3 * j) 1).toInt ≤ 60) (K : zy_W) (hh9 : Int) (hS9 : zy_SG σ h2 K hh9) (hW : zy_XW σ h0 K) : Met l yX2_fine wzX2_fine ({ frames := 3, cells := 0, slots := 0, locals := 74 }) (va_Pc [.ref h0, .ref h1, .int nr, .ref h2] (zz_B E σ)) (va_Qi (fun r σ1 => zz_ch (fun a k => a = h0 + 23 ∨ a = h0 + 26) σ σ1 ∧ (r.toInt = zy_fn K hh9 (σ h1 0) nr)) (zz_B E) (zz_A E)) 0 0 (zz_A E) := by
  refine zz_met (cc := cX2_fine) (maxL := 4) (ret := (some .int)) (by decide) rfl (Nat.le_of_ble_eq_true rfl) ?_
  intro p e s m args below meth c ls hx hb hr hts hown hlocks hml hK hP hS hl
  have hl : lv_has ls 4 [(0, .ref h0), (1, .ref h1), (2, .int nr), (3, .ref h2)] := hl
  have hown : s.vm.findClass RX2 = some m.cls := hown
  have hi1 : ∀ w ∈ wsX10, w ∈ wzX2_fine := fun w h => List.mem_cons_of_mem _ (hbw1 w h)
  have hi4 : ∀ w ∈ wsX40, w ∈ wzX2_fine := fun w h => List.mem_cons_of_mem _ (hbw4 w h)
  have k_0 : (0 : Int32).toInt = 0 := by decide +kernel
  have hC : zz_ch (fun a k => a = h0 + 23 ∨ a = h0 + 26) σ σ := zz_ch.rf σ
  refine lv_aload_n hx hb dX2_fine_0 rfl (lv_at hl 0 rfl) ?_
  refine lv_iconst (v := 0) hx hb dX2_fine_1 (by decide) ?_
  refine lv_aload_n hx hb dX2_fine_2 rfl (lv_at hl 3 rfl) ?_
  refine lv_aload_n hx hb dX2_fine_3 rfl (lv_at hl 1 rfl) ?_
  refine zz_geti hx hb hts hi1 hown hK hP (g_h1) rfl 0 (by decide) (hts (.fieldLink RX2 106 "NoonLaw$Person" "wont" "I") (List.mem_cons_of_mem _ bm_315)) rfl rfl rfl dX2_fine_4 ?_
  refine zz_callVp (As := [.int (σ h1 0)]) (rest := [.int 0, .ref h0]) ⟨hx, hb, hml, hown, hts⟩ hK hP hS (c_X4_guilt l E σ h2 (σ h1 0) g_h2 K hh9 (by exact hS9)) (cwV 1 hts gX2_fine_X4_guilt rfl rfl rfl (by decide +kernel) ⟨Nat.le_of_ble_eq_true rfl, Nat.le_of_ble_eq_true rfl⟩) (g_h2.1) rfl rfl hl.1 rfl (Nat.le_of_ble_eq_true rfl) dX2_fine_7 ⟨Nat.zero_le _, Nat.zero_le _⟩ (fun r1 H locs f1 hP1 hS1 => ?_)
  replace hP := hP1
  replace hS := hS1
  clear hP1 hS1
  skip
  refine lv_aload_n hx hb dX2_fine_10 rfl (lv_at hl 3 rfl) ?_
  refine zz_geti hx hb hts hi4 hown hK hP (g_h2.1) rfl 4 (by decide) (hts (.fieldLink RX2 141 "NoonLaw$Sight" "hourOfDay" "I") (List.mem_cons_of_mem _ bm_371)) rfl rfl rfl dX2_fine_11 ?_
  refine lv_iload_n hx hb dX2_fine_14 rfl (lv_at hl 2 rfl) ?_
  refine zz_callVi (As := [.int 0, .int r1, .int (σ h2 4), .int nr]) (rest := []) ⟨hx, hb, hml, hown, hts⟩ hK hP hS (c_X2_gives l E σ h0 0 r1 (σ h2 4) nr g0 (by omega) (by exact ht) K (by exact hW)) (cwV 4 hts gX2_fine_X2_gives rfl rfl rfl (by decide +kernel) ⟨Nat.le_of_ble_eq_true rfl, Nat.le_of_ble_eq_true rfl⟩) (g0.1) rfl rfl hl.1 rfl (Nat.le_of_ble_eq_true rfl) dX2_fine_15 ⟨Nat.zero_le _, Nat.zero_le _⟩ (fun r2 σ2 H locs q2 hP1 hS1 => ?_)
  replace hP := hP1
  replace hS := hS1
  clear hP1 hS1
  try dsimp only at q2
  obtain ⟨w2, f2⟩ := q2
  replace hC := hC.tr (w2.mono (dS8_1 h0))
  exact zz_iret hx hb hr hlocks hK hP hS dX2_fine_18 (by exact ⟨hC, by rw [zy_fn_eq, ← zz_ofI f1, ← zz_ofI hS9.2.2.2.2.1]; exact f2.1 k_0⟩)
theorem gX4_heaviest_X4_isLeft : GoodIn wzX4_heaviest (wsV RX4 88 RX4 yX4_isLeft wzX4_isLeft) := wz_co bm_728 (wz_co bm_729 (wz_co bm_730 (wz_co bm_30 (wz_in bm_731))))
set_option maxHeartbeats 4000000 in
set_option maxRecDepth 100000 in
theorem c_X4_heaviest (l : Launch) (E : zz_E) (σ : zz_S) (h0 : Nat) (h1 : Nat) (mt : Int32) (bd : Int32) (set : Int32) (g0 : zz_Si E h0) (g_h1 : zz_R E h1) (hd : 0 ≤ (σ h1 4).toInt ∧ (σ h1 4).toInt ≤ 9) (K : zy_W) (hh9 : Int) (hS9 : zy_SG σ h0 K hh9) (hW : zy_XW σ h1 K) : Met l yX4_heaviest wzX4_heaviest ({ frames := 1, cells := 0, slots := 0, locals := 22 }) (va_Pc [.ref h0, .ref h1, .int mt, .int bd, .int set] (zz_B E σ)) (va_Qi (fun r σ1 => σ1 = σ ∧ (r.toInt = zy_fg (-1000) K hh9 mt.toInt bd.toInt (zy_tb set))) (zz_B E) (zz_A E)) 0 0 (zz_A E) := by
  refine zz_met (cc := cX4_heaviest) (maxL := 8) (ret := (some .int)) (by decide) rfl (Nat.le_of_ble_eq_true rfl) ?_
  intro p e s m args below meth c ls hx hb hr hts hown hlocks hml hK hP hS hl
  have hl : lv_has ls 8 [(0, .ref h0), (1, .ref h1), (2, .int mt), (3, .int bd), (4, .int set)] := hl
  have hown : s.vm.findClass RX4 = some m.cls := hown
  have hi0 : ∀ w ∈ wsX00, w ∈ wzX4_heaviest := fun w h => List.mem_cons_of_mem _ (hbw0 w h)
  have hi2 : ∀ w ∈ wsX20, w ∈ wzX4_heaviest := fun w h => List.mem_cons_of_mem _ (hbw2 w h)
  have hi4 : ∀ w ∈ wsX40, w ∈ wzX4_heaviest := fun w h => List.mem_cons_of_mem _ (hbw4 w h)
  have k_m1000 : ((-1000) : Int32).toInt = -1000 := by decide +kernel
  have k_0 : (0 : Int32).toInt = 0 := by decide +kernel
  have k_1 : (1 : Int32).toInt = 1 := by decide +kernel
  have hct := hW.2.1
  have hc9 := hW.2.2.2.2.2.2.1
  refine lv_sipush (v := (-1000)) hx hb dX4_heaviest_0 (by decide) ?_
  refine lv_istore (lv' := [(5, .int (-1000)), (0, .ref h0), (1, .ref h1), (2, .int mt), (3, .int bd), (4, .int set)]) hx hb dX4_heaviest_3 hl (by decide) rfl (fun ls hl => ?_)
  refine lv_iconst (v := 0) hx hb dX4_heaviest_5 (by decide) ?_
  refine lv_istore (lv' := [(6, .int 0), (5, .int (-1000)), (0, .ref h0), (1, .ref h1), (2, .int mt), (3, .int bd), (4, .int set)]) hx hb dX4_heaviest_6 hl (by decide) rfl (fun ls hl => ?_)
  have J8 : ∀ (n : Nat) (mo : Int32) (ii : Int32) (H : Heap) (locs : List Loc) (ls : Array Slot), ((9 - ii.toInt).toNat) < n → (0 ≤ ii.toInt ∧ ii.toInt ≤ K.2.2.1) → (mo.toInt = zy_gx (-1000) (zy_fr K hh9 mt.toInt bd.toInt (zy_tb set)) (zy_wt K hh9) ii.toInt.toNat) → zz_P E σ H → va_S (zz_A E) s.heap H locs → lv_has ls 8 [(6, .int ii), (5, .int mo), (0, .ref h0), (1, .ref h1), (2, .int mt), (3, .int bd), (4, .int set)] → W p l e (headSpec wzX4_heaviest ({ frames := 1, cells := 0, slots := 0, locals := 22 })).room s m args below meth c H locs 0 0 (MQ below (va_Qi (fun r σ1 => σ1 = σ ∧ (r.toInt = zy_fg (-1000) K hh9 mt.toInt bd.toInt (zy_tb set))) (zz_B E) (zz_A E)) args s 0 0 (zz_A E)) (F0 m 8 ls []) := by
    intro n
    induction n with
    | zero => intro mo ii H locs ls hm; exact absurd hm (Nat.not_lt_zero _)
    | succ n ih8 =>
      intro mo ii H locs ls hm f8_0 f8_1 hP hS hl
      refine lv_iload hx hb dX4_heaviest_8 (lv_at hl 0 rfl) ?_
      refine lv_aload_n hx hb dX4_heaviest_10 rfl (lv_at hl 3 rfl) ?_
      refine zz_geti hx hb hts hi2 hown hK hP (g_h1.1) rfl 4 (by decide) (hts (.fieldLink RX4 28 "NoonLaw$Realm" "dreamCount" "I") (List.mem_cons_of_mem _ bm_339)) rfl rfl rfl dX4_heaviest_11 ?_
      refine lv_icmp_ge (tgt := 75) hx hb dX4_heaviest_14 (by decide) (fun c1 => ?_) (fun c1 => ?_)
      · have c1 := zz_leT c1
        refine lv_iload hx hb dX4_heaviest_75 (lv_at hl 1 rfl) ?_
        exact zz_iret hx hb hr hlocks hK hP hS dX4_heaviest_77 (by exact ⟨rfl, by rw [f8_1, zy_fg_eq, show ii.toInt.toNat = K.2.2.1.toNat from by omega]⟩)
      · have c1 := zz_nleT c1
        refine lv_aload_n hx hb dX4_heaviest_17 rfl (lv_at hl 3 rfl) ?_
        refine zz_getr hx hb hts hi2 hown hK hP (g_h1.1) rfl 3 (by decide) (hts (.fieldLink RX4 33 "NoonLaw$Realm" "dreams" "[LNoonLaw$Dream;") (List.mem_cons_of_mem _ bm_340)) rfl rfl dX4_heaviest_18 ?_
        refine lv_iload hx hb dX4_heaviest_21 (lv_at hl 0 rfl) ?_
        refine zz_aald hx hb hK hP (g_h1.2.1) rfl (by omega) (by omega) dX4_heaviest_23 (fun j2 q2 r2 => ?_)
        refine lv_astore (lv' := [(7, .ref (h1 + 6 + 1 * j2)), (6, .int ii), (5, .int mo), (0, .ref h0), (1, .ref h1), (2, .int mt), (3, .int bd), (4, .int set)]) hx hb dX4_heaviest_24 hl (by decide) rfl (fun ls hl => ?_)
        have he2 : (σ (h1 + 6 + 1 * j2) 2).toInt = K.2.1 ii.toInt.toNat 2 := by rw [show ii.toInt.toNat = j2 from by omega]; exact hW.at r2 (by decide)
        have he3 : (σ (h1 + 6 + 1 * j2) 3).toInt = K.2.1 ii.toInt.toNat 3 := by rw [show ii.toInt.toNat = j2 from by omega]; exact hW.at r2 (by decide)
        refine lv_aload_n hx hb dX4_heaviest_26 rfl (lv_at hl 3 rfl) ?_
        refine lv_iload hx hb dX4_heaviest_27 (lv_at hl 1 rfl) ?_
        refine lv_iload hx hb dX4_heaviest_29 (lv_at hl 7 rfl) ?_
        refine zz_callVp (As := [.int ii, .int set]) (rest := []) ⟨hx, hb, hml, hown, hts⟩ hK hP hS (c_X4_isLeft l E σ h0 ii set g0 K hh9 (by exact hS9) (by exact hc9) (by omega)) (cwV 2 hts gX4_heaviest_X4_isLeft rfl rfl rfl (by decide +kernel) ⟨Nat.le_of_ble_eq_true rfl, Nat.le_of_ble_eq_true rfl⟩) (g0.1) rfl rfl hl.1 rfl (Nat.le_of_ble_eq_true rfl) dX4_heaviest_31 ⟨Nat.zero_le _, Nat.zero_le _⟩ (fun r3 H locs f3 hP1 hS1 => ?_)
        replace hP := hP1
        replace hS := hS1
        clear hP1 hS1
        have hL9 := f3
        refine lv_if_eq (tgt := 69) hx hb dX4_heaviest_34 (by decide) (fun c4 => ?_) (fun c4 => ?_)
        · have c4 := zz_eqT c4
          obtain ⟨n5, e5⟩ : ∃ y : Int32, y = ii + 1 := ⟨_, rfl⟩
          have f5 : n5.toInt = (ii).toInt + (1) := by have h9 := zz_addT e5 (by omega) (by omega); omega
          refine lv_iinc (v := n5) (lv' := [(6, .int n5), (7, .ref (h1 + 6 + 1 * j2)), (5, .int mo), (0, .ref h0), (1, .ref h1), (2, .int mt), (3, .int bd), (4, .int set)]) hx hb dX4_heaviest_69 hl (k := 1) rfl (by rw [e5]; rfl) (by decide) rfl (fun ls hl => ?_)
          refine lv_goto (tgt := 8) hx hb dX4_heaviest_72 (by decide) ?_
          exact ih8 mo n5 _ _ _ (by omega) (by omega) (by rw [show n5.toInt.toNat = ii.toInt.toNat + 1 from by omega]; rw [zy_gx_0 (P := (zy_fr K hh9 mt.toInt bd.toInt (zy_tb set))) (fun q => hL9.n (by omega) ⟨q.2.2.1, q.2.2.2⟩)]; exact f8_1) hP hS (lv_sub hl [0, 2, 3, 4, 5, 6, 7] rfl)
        · have c4 := zz_neT c4
          refine lv_aload hx hb dX4_heaviest_37 (lv_at hl 0 rfl) ?_
          refine zz_geti hx hb hts hi0 hown hK hP ((g_h1.2.2.2.2.2.2.1 j2 r2)) rfl 2 (by decide) (hts (.fieldLink RX4 37 "NoonLaw$Dream" "matter" "I") (List.mem_cons_of_mem _ bm_341)) rfl rfl rfl dX4_heaviest_39 ?_
          refine lv_iload_n hx hb dX4_heaviest_42 rfl (lv_at hl 5 rfl) ?_
          skip
          refine lv_icmp_ne (tgt := 69) hx hb dX4_heaviest_43 (by decide) (fun c6 => ?_) (fun c6 => ?_)
          · have c6 := zz_neT c6
            obtain ⟨n7, e7⟩ : ∃ y : Int32, y = ii + 1 := ⟨_, rfl⟩
            have f7 : n7.toInt = (ii).toInt + (1) := by have h9 := zz_addT e7 (by omega) (by omega); omega
            refine lv_iinc (v := n7) (lv' := [(6, .int n7), (7, .ref (h1 + 6 + 1 * j2)), (5, .int mo), (0, .ref h0), (1, .ref h1), (2, .int mt), (3, .int bd), (4, .int set)]) hx hb dX4_heaviest_69 hl (k := 1) rfl (by rw [e7]; rfl) (by decide) rfl (fun ls hl => ?_)
            refine lv_goto (tgt := 8) hx hb dX4_heaviest_72 (by decide) ?_
            exact ih8 mo n7 _ _ _ (by omega) (by omega) (by rw [show n7.toInt.toNat = ii.toInt.toNat + 1 from by omega]; rw [zy_gx_0 (P := (zy_fr K hh9 mt.toInt bd.toInt (zy_tb set))) (fun q => by have q1 := q.1; omega)]; exact f8_1) hP hS (lv_sub hl [0, 2, 3, 4, 5, 6, 7] rfl)
          · have c6 := zz_eqT c6
            refine lv_aload hx hb dX4_heaviest_46 (lv_at hl 0 rfl) ?_
            refine zz_geti hx hb hts hi0 hown hK hP ((g_h1.2.2.2.2.2.2.1 j2 r2)) rfl 3 (by decide) (hts (.fieldLink RX4 57 "NoonLaw$Dream" "bids" "I") (List.mem_cons_of_mem _ bm_343)) rfl rfl rfl dX4_heaviest_48 ?_
            refine lv_iload_n hx hb dX4_heaviest_51 rfl (lv_at hl 6 rfl) ?_
            skip
            refine lv_icmp_ne (tgt := 69) hx hb dX4_heaviest_52 (by decide) (fun c8 => ?_) (fun c8 => ?_)
            · have c8 := zz_neT c8
              obtain ⟨n9, e9⟩ : ∃ y : Int32, y = ii + 1 := ⟨_, rfl⟩
              have f9 : n9.toInt = (ii).toInt + (1) := by have h9 := zz_addT e9 (by omega) (by omega); omega
              refine lv_iinc (v := n9) (lv' := [(6, .int n9), (7, .ref (h1 + 6 + 1 * j2)), (5, .int mo), (0, .ref h0), (1, .ref h1), (2, .int mt), (3, .int bd), (4, .int set)]) hx hb dX4_heaviest_69 hl (k := 1) rfl (by rw [e9]; rfl) (by decide) rfl (fun ls hl => ?_)
              refine lv_goto (tgt := 8) hx hb dX4_heaviest_72 (by decide) ?_
              exact ih8 mo n9 _ _ _ (by omega) (by omega) (by rw [show n9.toInt.toNat = ii.toInt.toNat + 1 from by omega]; rw [zy_gx_0 (P := (zy_fr K hh9 mt.toInt bd.toInt (zy_tb set))) (fun q => by have q2 := q.2.1; omega)]; exact f8_1) hP hS (lv_sub hl [0, 2, 3, 4, 5, 6, 7] rfl)
            · have c8 := zz_eqT c8
              refine lv_iload hx hb dX4_heaviest_55 (lv_at hl 2 rfl) ?_
              refine lv_aload_n hx hb dX4_heaviest_57 rfl (lv_at hl 3 rfl) ?_
              refine zz_getr hx hb hts hi4 hown hK hP (g0.1) rfl 5 (by decide) (hts (.fieldLink RX4 9 "NoonLaw$Sight" "weights" "[I") (List.mem_cons_of_mem _ bm_82)) rfl rfl dX4_heaviest_58 ?_
              refine lv_iload hx hb dX4_heaviest_61 (lv_at hl 1 rfl) ?_
              refine zz_iald hx hb hK hP (g0.2.1) (by omega) (by omega) dX4_heaviest_63 (fun j10 q10 r10 => ?_)
              have hw9 : (σ (h0 + 1) j10).toInt = zy_wt K hh9 ii.toInt.toNat := by rw [show j10 = ii.toInt.toNat from by omega]; exact hS9.2.2.2.2.2 _ (by omega) (hL9.y (by omega)).1
              refine va_mmax hx hb (hml.trans hl.1.symm) hown (hts (.methodLink RX4 60 Lib.Math.max.name) (List.mem_cons_of_mem _ bm_344)) (hts (.static Lib.Math.max.name) (List.mem_cons_of_mem _ bm_230)) (hts (.initialized "java/lang/Math") (List.mem_cons_of_mem _ bm_227)) (hts (.code Lib.Math.max.name Lib.Math.max.code 2 (some .int)) (List.mem_cons_of_mem _ bm_231)) (Nat.le_of_ble_eq_true rfl) (Nat.le_of_ble_eq_true rfl) (Nat.zero_le _) (Nat.zero_le _) dX4_heaviest_64 ?_
              refine lv_topi (fun n11 e11 => ?_)
              have f11 := zz_maxT e11
              refine lv_istore (lv' := [(5, .int n11), (7, .ref (h1 + 6 + 1 * j2)), (6, .int ii), (0, .ref h0), (1, .ref h1), (2, .int mt), (3, .int bd), (4, .int set)]) hx hb dX4_heaviest_67 hl (by decide) rfl (fun ls hl => ?_)
              obtain ⟨n12, e12⟩ : ∃ y : Int32, y = ii + 1 := ⟨_, rfl⟩
              have f12 : n12.toInt = (ii).toInt + (1) := by have h9 := zz_addT e12 (by omega) (by omega); omega
              refine lv_iinc (v := n12) (lv' := [(6, .int n12), (5, .int n11), (7, .ref (h1 + 6 + 1 * j2)), (0, .ref h0), (1, .ref h1), (2, .int mt), (3, .int bd), (4, .int set)]) hx hb dX4_heaviest_69 hl (k := 2) rfl (by rw [e12]; rfl) (by decide) rfl (fun ls hl => ?_)
              refine lv_goto (tgt := 8) hx hb dX4_heaviest_72 (by decide) ?_
              exact ih8 n11 n12 _ _ _ (by omega) (by omega) (by rw [show n12.toInt.toNat = ii.toInt.toNat + 1 from by omega]; exact zy_gx_m (P := (zy_fr K hh9 mt.toInt bd.toInt (zy_tb set))) ⟨by omega, by omega, (hL9.y (by omega)).1, (hL9.y (by omega)).2⟩ f8_1 ⟨by omega, by omega, by omega⟩ rfl) hP hS (lv_sub hl [0, 1, 3, 4, 5, 6, 7] rfl)
  exact J8 _ (-1000) 0 _ _ _ (Nat.lt_succ_self _) (by omega) (by rw [show (0 : Int32).toInt.toNat = 0 from by decide, k_m1000]; rfl) hP hS (lv_sub hl [0, 1, 2, 3, 4, 5, 6] rfl)
theorem gX4_outweighing_X4_heaviest : GoodIn wzX4_outweighing (wsV RX4 84 RX4 yX4_heaviest wzX4_heaviest) := wz_co bm_724 (wz_co bm_725 (wz_co bm_726 (wz_co bm_30 (wz_in bm_727))))
theorem gX4_outweighing_X4_isLeft : GoodIn wzX4_outweighing (wsV RX4 88 RX4 yX4_isLeft wzX4_isLeft) := wz_co bm_728 (wz_co bm_729 (wz_co bm_730 (wz_co bm_30 (wz_in bm_731))))
set_option maxHeartbeats 4000000 in
set_option maxRecDepth 100000 in
theorem c_X4_outweighing (l : Launch) (E : zz_E) (σ : zz_S) (h0 : Nat) (h1 : Nat) (mt : Int32) (set : Int32) (g0 : zz_Si E h0) (g_h1 : zz_R E h1) (hd : 0 ≤ (σ h1 4).toInt ∧ (σ h1 4).toInt ≤ 9) (K : zy_W) (hh9 : Int) (hS9 : zy_SG σ h0 K hh9) (hW : zy_XW σ h1 K) : Met l yX4_outweighing wzX4_outweighing ({ frames := 2, cells := 0, slots := 0, locals := 49 }) (va_Pc [.ref h0, .ref h1, .int mt, .int set] (zz_B E σ)) (va_Qi (fun r σ1 => σ1 = σ ∧ (r = zy_st (zy_ow K hh9 mt.toInt (zy_tb set)) K.2.2.1.toNat)) (zz_B E) (zz_A E)) 0 0 (zz_A E) := by
  refine zz_met (cc := cX4_outweighing) (maxL := 10) (ret := (some .int)) (by decide) rfl (Nat.le_of_ble_eq_true rfl) ?_
  intro p e s m args below meth c ls hx hb hr hts hown hlocks hml hK hP hS hl
  have hl : lv_has ls 10 [(0, .ref h0), (1, .ref h1), (2, .int mt), (3, .int set)] := hl
  have hown : s.vm.findClass RX4 = some m.cls := hown
  have hi0 : ∀ w ∈ wsX00, w ∈ wzX4_outweighing := fun w h => List.mem_cons_of_mem _ (hbw0 w h)
  have hi2 : ∀ w ∈ wsX20, w ∈ wzX4_outweighing := fun w h => List.mem_cons_of_mem _ (hbw2 w h)
  have hi4 : ∀ w ∈ wsX40, w ∈ wzX4_outweighing := fun w h => List.mem_cons_of_mem _ (hbw4 w h)
  have k_0 : (0 : Int32).toInt = 0 := by decide +kernel
  have k_1 : (1 : Int32).toInt = 1 := by decide +kernel
  have hct := hW.2.1
  have hc9 := hW.2.2.2.2.2.2.1
  refine lv_aload_n hx hb dX4_outweighing_0 rfl (lv_at hl 0 rfl) ?_
  refine lv_aload_n hx hb dX4_outweighing_1 rfl (lv_at hl 1 rfl) ?_
  refine lv_iload_n hx hb dX4_outweighing_2 rfl (lv_at hl 2 rfl) ?_
  refine lv_iconst (v := 1) hx hb dX4_outweighing_3 (by decide) ?_
  refine lv_iload_n hx hb dX4_outweighing_4 rfl (lv_at hl 3 rfl) ?_
  refine zz_callVp (As := [.ref h1, .int mt, .int 1, .int set]) (rest := []) ⟨hx, hb, hml, hown, hts⟩ hK hP hS (c_X4_heaviest l E σ h0 h1 mt 1 set g0 g_h1 (by exact hd) K hh9 (by exact hS9) (by exact hW)) (cwV 4 hts gX4_outweighing_X4_heaviest rfl rfl rfl (by decide +kernel) ⟨Nat.le_of_ble_eq_true rfl, Nat.le_of_ble_eq_true rfl⟩) (g0.1) rfl rfl hl.1 rfl (Nat.le_of_ble_eq_true rfl) dX4_outweighing_5 ⟨Nat.zero_le _, Nat.zero_le _⟩ (fun r1 H locs f1 hP1 hS1 => ?_)
  replace hP := hP1
  replace hS := hS1
  clear hP1 hS1
  have gbid := f1
  rw [k_1] at gbid
  refine lv_istore (lv' := [(4, .int r1), (0, .ref h0), (1, .ref h1), (2, .int mt), (3, .int set)]) hx hb dX4_outweighing_8 hl (by decide) rfl (fun ls hl => ?_)
  refine lv_aload_n hx hb dX4_outweighing_10 rfl (lv_at hl 1 rfl) ?_
  refine lv_aload_n hx hb dX4_outweighing_11 rfl (lv_at hl 2 rfl) ?_
  refine lv_iload_n hx hb dX4_outweighing_12 rfl (lv_at hl 3 rfl) ?_
  refine lv_iconst (v := 0) hx hb dX4_outweighing_13 (by decide) ?_
  refine lv_iload_n hx hb dX4_outweighing_14 rfl (lv_at hl 4 rfl) ?_
  refine zz_callVp (As := [.ref h1, .int mt, .int 0, .int set]) (rest := []) ⟨hx, hb, hml, hown, hts⟩ hK hP hS (c_X4_heaviest l E σ h0 h1 mt 0 set g0 g_h1 (by exact hd) K hh9 (by exact hS9) (by exact hW)) (cwV 4 hts gX4_outweighing_X4_heaviest rfl rfl rfl (by decide +kernel) ⟨Nat.le_of_ble_eq_true rfl, Nat.le_of_ble_eq_true rfl⟩) (g0.1) rfl rfl hl.1 rfl (Nat.le_of_ble_eq_true rfl) dX4_outweighing_15 ⟨Nat.zero_le _, Nat.zero_le _⟩ (fun r2 H locs f2 hP1 hS1 => ?_)
  replace hP := hP1
  replace hS := hS1
  clear hP1 hS1
  have gban := f2
  rw [k_0] at gban
  refine lv_istore (lv' := [(5, .int r2), (4, .int r1), (0, .ref h0), (1, .ref h1), (2, .int mt), (3, .int set)]) hx hb dX4_outweighing_18 hl (by decide) rfl (fun ls hl => ?_)
  refine lv_iconst (v := 0) hx hb dX4_outweighing_20 (by decide) ?_
  refine lv_istore (lv' := [(6, .int 0), (5, .int r2), (4, .int r1), (0, .ref h0), (1, .ref h1), (2, .int mt), (3, .int set)]) hx hb dX4_outweighing_21 hl (by decide) rfl (fun ls hl => ?_)
  refine lv_iconst (v := 0) hx hb dX4_outweighing_23 (by decide) ?_
  refine lv_istore (lv' := [(7, .int 0), (6, .int 0), (5, .int r2), (4, .int r1), (0, .ref h0), (1, .ref h1), (2, .int mt), (3, .int set)]) hx hb dX4_outweighing_24 hl (by decide) rfl (fun ls hl => ?_)
  have J26 : ∀ (n : Nat) (fd : Int32) (ii : Int32) (H : Heap) (locs : List Loc) (ls : Array Slot), ((9 - ii.toInt).toNat) < n → (0 ≤ ii.toInt ∧ ii.toInt ≤ K.2.2.1) → (fd = zy_st (zy_ow K hh9 mt.toInt (zy_tb set)) ii.toInt.toNat) → zz_P E σ H → va_S (zz_A E) s.heap H locs → lv_has ls 10 [(7, .int ii), (6, .int fd), (5, .int r2), (4, .int r1), (0, .ref h0), (1, .ref h1), (2, .int mt), (3, .int set)] → W p l e (headSpec wzX4_outweighing ({ frames := 2, cells := 0, slots := 0, locals := 49 })).room s m args below meth c H locs 0 0 (MQ below (va_Qi (fun r σ1 => σ1 = σ ∧ (r = zy_st (zy_ow K hh9 mt.toInt (zy_tb set)) K.2.2.1.toNat)) (zz_B E) (zz_A E)) args s 0 0 (zz_A E)) (F0 m 26 ls []) := by
    intro n
    induction n with
    | zero => intro fd ii H locs ls hm; exact absurd hm (Nat.not_lt_zero _)
    | succ n ih26 =>
      intro fd ii H locs ls hm f26_0 f26_1 hP hS hl
      refine lv_iload hx hb dX4_outweighing_26 (lv_at hl 0 rfl) ?_
      refine lv_aload_n hx hb dX4_outweighing_28 rfl (lv_at hl 5 rfl) ?_
      refine zz_geti hx hb hts hi2 hown hK hP (g_h1.1) rfl 4 (by decide) (hts (.fieldLink RX4 28 "NoonLaw$Realm" "dreamCount" "I") (List.mem_cons_of_mem _ bm_339)) rfl rfl rfl dX4_outweighing_29 ?_
      refine lv_icmp_ge (tgt := 108) hx hb dX4_outweighing_32 (by decide) (fun c3 => ?_) (fun c3 => ?_)
      · have c3 := zz_leT c3
        refine lv_iload hx hb dX4_outweighing_108 (lv_at hl 1 rfl) ?_
        exact zz_iret hx hb hr hlocks hK hP hS dX4_outweighing_110 (by exact ⟨rfl, by rw [f26_1, show ii.toInt.toNat = K.2.2.1.toNat from by omega]⟩)
      · have c3 := zz_nleT c3
        refine lv_aload_n hx hb dX4_outweighing_35 rfl (lv_at hl 5 rfl) ?_
        refine zz_getr hx hb hts hi2 hown hK hP (g_h1.1) rfl 3 (by decide) (hts (.fieldLink RX4 33 "NoonLaw$Realm" "dreams" "[LNoonLaw$Dream;") (List.mem_cons_of_mem _ bm_340)) rfl rfl dX4_outweighing_36 ?_
        refine lv_iload hx hb dX4_outweighing_39 (lv_at hl 0 rfl) ?_
        refine zz_aald hx hb hK hP (g_h1.2.1) rfl (by omega) (by omega) dX4_outweighing_41 (fun j4 q4 r4 => ?_)
        refine lv_astore (lv' := [(8, .ref (h1 + 6 + 1 * j4)), (7, .int ii), (6, .int fd), (5, .int r2), (4, .int r1), (0, .ref h0), (1, .ref h1), (2, .int mt), (3, .int set)]) hx hb dX4_outweighing_42 hl (by decide) rfl (fun ls hl => ?_)
        have he2 : (σ (h1 + 6 + 1 * j4) 2).toInt = K.2.1 ii.toInt.toNat 2 := by rw [show ii.toInt.toNat = j4 from by omega]; exact hW.at r4 (by decide)
        have he3 : (σ (h1 + 6 + 1 * j4) 3).toInt = K.2.1 ii.toInt.toNat 3 := by rw [show ii.toInt.toNat = j4 from by omega]; exact hW.at r4 (by decide)
        refine lv_aload hx hb dX4_outweighing_44 (lv_at hl 0 rfl) ?_
        refine zz_geti hx hb hts hi0 hown hK hP ((g_h1.2.2.2.2.2.2.1 j4 r4)) rfl 3 (by decide) (hts (.fieldLink RX4 57 "NoonLaw$Dream" "bids" "I") (List.mem_cons_of_mem _ bm_343)) rfl rfl rfl dX4_outweighing_46 ?_
        refine lv_iconst (v := 1) hx hb dX4_outweighing_49 (by decide) ?_
        refine lv_icmp_ne (tgt := 58) hx hb dX4_outweighing_50 (by decide) (fun c5 => ?_) (fun c5 => ?_)
        · have c5 := zz_neT c5
          skip
          refine lv_iload hx hb dX4_outweighing_58 (lv_at hl 4 rfl) ?_
          refine lv_istore (lv' := [(9, .int r1), (8, .ref (h1 + 6 + 1 * j4)), (7, .int ii), (6, .int fd), (5, .int r2), (4, .int r1), (0, .ref h0), (1, .ref h1), (2, .int mt), (3, .int set)]) hx hb dX4_outweighing_60 hl (by decide) rfl (fun ls hl => ?_)
          refine lv_aload_n hx hb dX4_outweighing_62 rfl (lv_at hl 6 rfl) ?_
          refine lv_iload hx hb dX4_outweighing_63 (lv_at hl 2 rfl) ?_
          refine lv_iload_n hx hb dX4_outweighing_65 rfl (lv_at hl 9 rfl) ?_
          refine zz_callVp (As := [.int ii, .int set]) (rest := []) ⟨hx, hb, hml, hown, hts⟩ hK hP hS (c_X4_isLeft l E σ h0 ii set g0 K hh9 (by exact hS9) (by exact hc9) (by omega)) (cwV 2 hts gX4_outweighing_X4_isLeft rfl rfl rfl (by decide +kernel) ⟨Nat.le_of_ble_eq_true rfl, Nat.le_of_ble_eq_true rfl⟩) (g0.1) rfl rfl hl.1 rfl (Nat.le_of_ble_eq_true rfl) dX4_outweighing_66 ⟨Nat.zero_le _, Nat.zero_le _⟩ (fun r6 H locs f6 hP1 hS1 => ?_)
          replace hP := hP1
          replace hS := hS1
          clear hP1 hS1
          have hL9 := f6
          refine lv_if_eq (tgt := 102) hx hb dX4_outweighing_69 (by decide) (fun c7 => ?_) (fun c7 => ?_)
          · have c7 := zz_eqT c7
            obtain ⟨n8, e8⟩ : ∃ y : Int32, y = ii + 1 := ⟨_, rfl⟩
            have f8 : n8.toInt = (ii).toInt + (1) := by have h9 := zz_addT e8 (by omega) (by omega); omega
            refine lv_iinc (v := n8) (lv' := [(7, .int n8), (9, .int r1), (8, .ref (h1 + 6 + 1 * j4)), (6, .int fd), (5, .int r2), (4, .int r1), (0, .ref h0), (1, .ref h1), (2, .int mt), (3, .int set)]) hx hb dX4_outweighing_102 hl (k := 2) rfl (by rw [e8]; rfl) (by decide) rfl (fun ls hl => ?_)
            refine lv_goto (tgt := 26) hx hb dX4_outweighing_105 (by decide) ?_
            exact ih26 fd n8 _ _ _ (by omega) (by omega) (by rw [show n8.toInt.toNat = ii.toInt.toNat + 1 from by omega]; exact zy_st_no (P := (zy_ow K hh9 mt.toInt (zy_tb set))) (fun q => hL9.n (by omega) ⟨q.2.1, q.2.2.1⟩) f26_1 rfl) hP hS (lv_sub hl [0, 3, 4, 5, 6, 7, 8, 9] rfl)
          · have c7 := zz_neT c7
            refine lv_aload hx hb dX4_outweighing_72 (lv_at hl 1 rfl) ?_
            refine zz_geti hx hb hts hi0 hown hK hP ((g_h1.2.2.2.2.2.2.1 j4 r4)) rfl 2 (by decide) (hts (.fieldLink RX4 37 "NoonLaw$Dream" "matter" "I") (List.mem_cons_of_mem _ bm_341)) rfl rfl rfl dX4_outweighing_74 ?_
            refine lv_iload_n hx hb dX4_outweighing_77 rfl (lv_at hl 8 rfl) ?_
            skip
            refine lv_icmp_ne (tgt := 102) hx hb dX4_outweighing_78 (by decide) (fun c9 => ?_) (fun c9 => ?_)
            · have c9 := zz_neT c9
              obtain ⟨n10, e10⟩ : ∃ y : Int32, y = ii + 1 := ⟨_, rfl⟩
              have f10 : n10.toInt = (ii).toInt + (1) := by have h9 := zz_addT e10 (by omega) (by omega); omega
              refine lv_iinc (v := n10) (lv' := [(7, .int n10), (9, .int r1), (8, .ref (h1 + 6 + 1 * j4)), (6, .int fd), (5, .int r2), (4, .int r1), (0, .ref h0), (1, .ref h1), (2, .int mt), (3, .int set)]) hx hb dX4_outweighing_102 hl (k := 2) rfl (by rw [e10]; rfl) (by decide) rfl (fun ls hl => ?_)
              refine lv_goto (tgt := 26) hx hb dX4_outweighing_105 (by decide) ?_
              exact ih26 fd n10 _ _ _ (by omega) (by omega) (by rw [show n10.toInt.toNat = ii.toInt.toNat + 1 from by omega]; exact zy_st_no (P := (zy_ow K hh9 mt.toInt (zy_tb set))) (fun q => by have q1 := q.1; omega) f26_1 rfl) hP hS (lv_sub hl [0, 3, 4, 5, 6, 7, 8, 9] rfl)
            · have c9 := zz_eqT c9
              refine lv_aload_n hx hb dX4_outweighing_81 rfl (lv_at hl 6 rfl) ?_
              refine zz_getr hx hb hts hi4 hown hK hP (g0.1) rfl 5 (by decide) (hts (.fieldLink RX4 9 "NoonLaw$Sight" "weights" "[I") (List.mem_cons_of_mem _ bm_82)) rfl rfl dX4_outweighing_82 ?_
              refine lv_iload hx hb dX4_outweighing_85 (lv_at hl 2 rfl) ?_
              refine zz_iald hx hb hK hP (g0.2.1) (by omega) (by omega) dX4_outweighing_87 (fun j11 q11 r11 => ?_)
              have hw9 : (σ (h0 + 1) j11).toInt = zy_wt K hh9 ii.toInt.toNat := by rw [show j11 = ii.toInt.toNat from by omega]; exact hS9.2.2.2.2.2 _ (by omega) (hL9.y (by omega)).1
              refine lv_iload hx hb dX4_outweighing_88 (lv_at hl 0 rfl) ?_
              refine lv_icmp_le (tgt := 102) hx hb dX4_outweighing_90 (by decide) (fun c12 => ?_) (fun c12 => ?_)
              · have c12 := zz_leT c12
                obtain ⟨n13, e13⟩ : ∃ y : Int32, y = ii + 1 := ⟨_, rfl⟩
                have f13 : n13.toInt = (ii).toInt + (1) := by have h9 := zz_addT e13 (by omega) (by omega); omega
                refine lv_iinc (v := n13) (lv' := [(7, .int n13), (9, .int r1), (8, .ref (h1 + 6 + 1 * j4)), (6, .int fd), (5, .int r2), (4, .int r1), (0, .ref h0), (1, .ref h1), (2, .int mt), (3, .int set)]) hx hb dX4_outweighing_102 hl (k := 2) rfl (by rw [e13]; rfl) (by decide) rfl (fun ls hl => ?_)
                refine lv_goto (tgt := 26) hx hb dX4_outweighing_105 (by decide) ?_
                exact ih26 fd n13 _ _ _ (by omega) (by omega) (by rw [show n13.toInt.toNat = ii.toInt.toNat + 1 from by omega]; exact zy_st_no (P := (zy_ow K hh9 mt.toInt (zy_tb set))) (fun q => by have q4 := q.2.2.2; rw [if_neg (show ¬ K.2.1 ii.toInt.toNat 3 = 1 from by omega)] at q4; omega) f26_1 rfl) hP hS (lv_sub hl [0, 3, 4, 5, 6, 7, 8, 9] rfl)
              · have c12 := zz_nleT c12
                skip
                refine lv_iload hx hb dX4_outweighing_93 (lv_at hl 3 rfl) ?_
                refine lv_iconst (v := 1) hx hb dX4_outweighing_95 (by decide) ?_
                refine lv_iload hx hb dX4_outweighing_96 (lv_at hl 2 rfl) ?_
                refine lv_ishl hx hb dX4_outweighing_98 ?_
                refine lv_topi (fun n14 e14 => ?_)
                refine lv_ior hx hb dX4_outweighing_99 ?_
                refine lv_topi (fun n15 e15 => ?_)
                refine lv_istore (lv' := [(6, .int n15), (9, .int r1), (8, .ref (h1 + 6 + 1 * j4)), (7, .int ii), (5, .int r2), (4, .int r1), (0, .ref h0), (1, .ref h1), (2, .int mt), (3, .int set)]) hx hb dX4_outweighing_100 hl (by decide) rfl (fun ls hl => ?_)
                obtain ⟨n16, e16⟩ : ∃ y : Int32, y = ii + 1 := ⟨_, rfl⟩
                have f16 : n16.toInt = (ii).toInt + (1) := by have h9 := zz_addT e16 (by omega) (by omega); omega
                refine lv_iinc (v := n16) (lv' := [(7, .int n16), (6, .int n15), (9, .int r1), (8, .ref (h1 + 6 + 1 * j4)), (5, .int r2), (4, .int r1), (0, .ref h0), (1, .ref h1), (2, .int mt), (3, .int set)]) hx hb dX4_outweighing_102 hl (k := 3) rfl (by rw [e16]; rfl) (by decide) rfl (fun ls hl => ?_)
                refine lv_goto (tgt := 26) hx hb dX4_outweighing_105 (by decide) ?_
                exact ih26 n15 n16 _ _ _ (by omega) (by omega) (by rw [show n16.toInt.toNat = ii.toInt.toNat + 1 from by omega]; exact zy_st_in (P := (zy_ow K hh9 mt.toInt (zy_tb set))) ⟨by omega, (hL9.y (by omega)).1, (hL9.y (by omega)).2, by rw [if_neg (show ¬ K.2.1 ii.toInt.toNat 3 = 1 from by omega)]; omega⟩ f26_1 (i := ii) (by omega) e14 e15 rfl) hP hS (lv_sub hl [0, 1, 4, 5, 6, 7, 8, 9] rfl)
        · have c5 := zz_eqT c5
          skip
          refine lv_iload hx hb dX4_outweighing_53 (lv_at hl 3 rfl) ?_
          refine lv_goto (tgt := 60) hx hb dX4_outweighing_55 (by decide) ?_
          refine lv_istore (lv' := [(9, .int r2), (8, .ref (h1 + 6 + 1 * j4)), (7, .int ii), (6, .int fd), (5, .int r2), (4, .int r1), (0, .ref h0), (1, .ref h1), (2, .int mt), (3, .int set)]) hx hb dX4_outweighing_60 hl (by decide) rfl (fun ls hl => ?_)
          refine lv_aload_n hx hb dX4_outweighing_62 rfl (lv_at hl 6 rfl) ?_
          refine lv_iload hx hb dX4_outweighing_63 (lv_at hl 2 rfl) ?_
          refine lv_iload_n hx hb dX4_outweighing_65 rfl (lv_at hl 9 rfl) ?_
          refine zz_callVp (As := [.int ii, .int set]) (rest := []) ⟨hx, hb, hml, hown, hts⟩ hK hP hS (c_X4_isLeft l E σ h0 ii set g0 K hh9 (by exact hS9) (by exact hc9) (by omega)) (cwV 2 hts gX4_outweighing_X4_isLeft rfl rfl rfl (by decide +kernel) ⟨Nat.le_of_ble_eq_true rfl, Nat.le_of_ble_eq_true rfl⟩) (g0.1) rfl rfl hl.1 rfl (Nat.le_of_ble_eq_true rfl) dX4_outweighing_66 ⟨Nat.zero_le _, Nat.zero_le _⟩ (fun r17 H locs f17 hP1 hS1 => ?_)
          replace hP := hP1
          replace hS := hS1
          clear hP1 hS1
          have hL9 := f17
          refine lv_if_eq (tgt := 102) hx hb dX4_outweighing_69 (by decide) (fun c18 => ?_) (fun c18 => ?_)
          · have c18 := zz_eqT c18
            obtain ⟨n19, e19⟩ : ∃ y : Int32, y = ii + 1 := ⟨_, rfl⟩
            have f19 : n19.toInt = (ii).toInt + (1) := by have h9 := zz_addT e19 (by omega) (by omega); omega
            refine lv_iinc (v := n19) (lv' := [(7, .int n19), (9, .int r2), (8, .ref (h1 + 6 + 1 * j4)), (6, .int fd), (5, .int r2), (4, .int r1), (0, .ref h0), (1, .ref h1), (2, .int mt), (3, .int set)]) hx hb dX4_outweighing_102 hl (k := 2) rfl (by rw [e19]; rfl) (by decide) rfl (fun ls hl => ?_)
            refine lv_goto (tgt := 26) hx hb dX4_outweighing_105 (by decide) ?_
            exact ih26 fd n19 _ _ _ (by omega) (by omega) (by rw [show n19.toInt.toNat = ii.toInt.toNat + 1 from by omega]; exact zy_st_no (P := (zy_ow K hh9 mt.toInt (zy_tb set))) (fun q => hL9.n (by omega) ⟨q.2.1, q.2.2.1⟩) f26_1 rfl) hP hS (lv_sub hl [0, 3, 4, 5, 6, 7, 8, 9] rfl)
          · have c18 := zz_neT c18
            refine lv_aload hx hb dX4_outweighing_72 (lv_at hl 1 rfl) ?_
            refine zz_geti hx hb hts hi0 hown hK hP ((g_h1.2.2.2.2.2.2.1 j4 r4)) rfl 2 (by decide) (hts (.fieldLink RX4 37 "NoonLaw$Dream" "matter" "I") (List.mem_cons_of_mem _ bm_341)) rfl rfl rfl dX4_outweighing_74 ?_
            refine lv_iload_n hx hb dX4_outweighing_77 rfl (lv_at hl 8 rfl) ?_
            skip
            refine lv_icmp_ne (tgt := 102) hx hb dX4_outweighing_78 (by decide) (fun c20 => ?_) (fun c20 => ?_)
            · have c20 := zz_neT c20
              obtain ⟨n21, e21⟩ : ∃ y : Int32, y = ii + 1 := ⟨_, rfl⟩
              have f21 : n21.toInt = (ii).toInt + (1) := by have h9 := zz_addT e21 (by omega) (by omega); omega
              refine lv_iinc (v := n21) (lv' := [(7, .int n21), (9, .int r2), (8, .ref (h1 + 6 + 1 * j4)), (6, .int fd), (5, .int r2), (4, .int r1), (0, .ref h0), (1, .ref h1), (2, .int mt), (3, .int set)]) hx hb dX4_outweighing_102 hl (k := 2) rfl (by rw [e21]; rfl) (by decide) rfl (fun ls hl => ?_)
              refine lv_goto (tgt := 26) hx hb dX4_outweighing_105 (by decide) ?_
              exact ih26 fd n21 _ _ _ (by omega) (by omega) (by rw [show n21.toInt.toNat = ii.toInt.toNat + 1 from by omega]; exact zy_st_no (P := (zy_ow K hh9 mt.toInt (zy_tb set))) (fun q => by have q1 := q.1; omega) f26_1 rfl) hP hS (lv_sub hl [0, 3, 4, 5, 6, 7, 8, 9] rfl)
            · have c20 := zz_eqT c20
              refine lv_aload_n hx hb dX4_outweighing_81 rfl (lv_at hl 6 rfl) ?_
              refine zz_getr hx hb hts hi4 hown hK hP (g0.1) rfl 5 (by decide) (hts (.fieldLink RX4 9 "NoonLaw$Sight" "weights" "[I") (List.mem_cons_of_mem _ bm_82)) rfl rfl dX4_outweighing_82 ?_
              refine lv_iload hx hb dX4_outweighing_85 (lv_at hl 2 rfl) ?_
              refine zz_iald hx hb hK hP (g0.2.1) (by omega) (by omega) dX4_outweighing_87 (fun j22 q22 r22 => ?_)
              have hw9 : (σ (h0 + 1) j22).toInt = zy_wt K hh9 ii.toInt.toNat := by rw [show j22 = ii.toInt.toNat from by omega]; exact hS9.2.2.2.2.2 _ (by omega) (hL9.y (by omega)).1
              refine lv_iload hx hb dX4_outweighing_88 (lv_at hl 0 rfl) ?_
              refine lv_icmp_le (tgt := 102) hx hb dX4_outweighing_90 (by decide) (fun c23 => ?_) (fun c23 => ?_)
              · have c23 := zz_leT c23
                obtain ⟨n24, e24⟩ : ∃ y : Int32, y = ii + 1 := ⟨_, rfl⟩
                have f24 : n24.toInt = (ii).toInt + (1) := by have h9 := zz_addT e24 (by omega) (by omega); omega
                refine lv_iinc (v := n24) (lv' := [(7, .int n24), (9, .int r2), (8, .ref (h1 + 6 + 1 * j4)), (6, .int fd), (5, .int r2), (4, .int r1), (0, .ref h0), (1, .ref h1), (2, .int mt), (3, .int set)]) hx hb dX4_outweighing_102 hl (k := 2) rfl (by rw [e24]; rfl) (by decide) rfl (fun ls hl => ?_)
                refine lv_goto (tgt := 26) hx hb dX4_outweighing_105 (by decide) ?_
                exact ih26 fd n24 _ _ _ (by omega) (by omega) (by rw [show n24.toInt.toNat = ii.toInt.toNat + 1 from by omega]; exact zy_st_no (P := (zy_ow K hh9 mt.toInt (zy_tb set))) (fun q => by have q4 := q.2.2.2; rw [if_pos (show K.2.1 ii.toInt.toNat 3 = 1 from by omega)] at q4; omega) f26_1 rfl) hP hS (lv_sub hl [0, 3, 4, 5, 6, 7, 8, 9] rfl)
              · have c23 := zz_nleT c23
                skip
                refine lv_iload hx hb dX4_outweighing_93 (lv_at hl 3 rfl) ?_
                refine lv_iconst (v := 1) hx hb dX4_outweighing_95 (by decide) ?_
                refine lv_iload hx hb dX4_outweighing_96 (lv_at hl 2 rfl) ?_
                refine lv_ishl hx hb dX4_outweighing_98 ?_
                refine lv_topi (fun n25 e25 => ?_)
                refine lv_ior hx hb dX4_outweighing_99 ?_
                refine lv_topi (fun n26 e26 => ?_)
                refine lv_istore (lv' := [(6, .int n26), (9, .int r2), (8, .ref (h1 + 6 + 1 * j4)), (7, .int ii), (5, .int r2), (4, .int r1), (0, .ref h0), (1, .ref h1), (2, .int mt), (3, .int set)]) hx hb dX4_outweighing_100 hl (by decide) rfl (fun ls hl => ?_)
                obtain ⟨n27, e27⟩ : ∃ y : Int32, y = ii + 1 := ⟨_, rfl⟩
                have f27 : n27.toInt = (ii).toInt + (1) := by have h9 := zz_addT e27 (by omega) (by omega); omega
                refine lv_iinc (v := n27) (lv' := [(7, .int n27), (6, .int n26), (9, .int r2), (8, .ref (h1 + 6 + 1 * j4)), (5, .int r2), (4, .int r1), (0, .ref h0), (1, .ref h1), (2, .int mt), (3, .int set)]) hx hb dX4_outweighing_102 hl (k := 3) rfl (by rw [e27]; rfl) (by decide) rfl (fun ls hl => ?_)
                refine lv_goto (tgt := 26) hx hb dX4_outweighing_105 (by decide) ?_
                exact ih26 n26 n27 _ _ _ (by omega) (by omega) (by rw [show n27.toInt.toNat = ii.toInt.toNat + 1 from by omega]; exact zy_st_in (P := (zy_ow K hh9 mt.toInt (zy_tb set))) ⟨by omega, (hL9.y (by omega)).1, (hL9.y (by omega)).2, by rw [if_pos (show K.2.1 ii.toInt.toNat 3 = 1 from by omega)]; omega⟩ f26_1 (i := ii) (by omega) e25 e26 rfl) hP hS (lv_sub hl [0, 1, 4, 5, 6, 7, 8, 9] rfl)
  exact J26 _ 0 0 _ _ _ (Nat.lt_succ_self _) (by omega) (by rw [show (0 : Int32).toInt.toNat = 0 from by decide]; rfl) hP hS (lv_sub hl [0, 1, 2, 3, 4, 5, 6, 7] rfl)
theorem dS8_2 (x0 : Nat) : (x0) = x0 ∧ ((1) = 1 ∨ (1) = 2 ∨ (1) = 3) := by omega
theorem dS8_3 (x0 : Nat) : (x0) = x0 ∧ ((2) = 1 ∨ (2) = 2 ∨ (2) = 3) := by omega
theorem dS8_4 (x0 : Nat) : (x0) = x0 ∧ ((3) = 1 ∨ (3) = 2 ∨ (3) = 3) := by omega
set_option maxHeartbeats 4000000 in
set_option maxRecDepth 100000 in
theorem c_X4_weighSides (l : Launch) (E : zz_E) (σ : zz_S) (h0 : Nat) (g0 : zz_Si E h0) : Met l yX4_weighSides wzX4_weighSides ({ frames := 0, cells := 0, slots := 0, locals := 0 }) (va_Pc [.ref h0] (zz_B E σ)) (va_Qv (fun σ1 => zz_ch (fun a k => a = h0 ∧ (k = 1 ∨ k = 2 ∨ k = 3)) σ σ1 ∧ (σ1 h0 1 = zy_st (fun m => (σ (h0 + 3) m).toInt < (σ (h0 + 2) m).toInt) 10 ∧ σ1 h0 2 = zy_st (fun m => (σ (h0 + 2) m).toInt < (σ (h0 + 3) m).toInt) 10 ∧ σ1 h0 3 = zy_st (fun m => (σ (h0 + 2) m).toInt ≠ -1000 ∧ (σ (h0 + 3) m).toInt ≠ -1000) 10)) (zz_B E) (zz_A E)) 0 0 (zz_A E) := by
  refine zz_met (cc := cX4_weighSides) (maxL := 3) (ret := none) (by decide) rfl (Nat.le_of_ble_eq_true rfl) ?_
  intro p e s m args below meth c ls hx hb hr hts hown hlocks hml hK hP hS hl
  have hl : lv_has ls 3 [(0, .ref h0)] := hl
  have hown : s.vm.findClass RX4 = some m.cls := hown
  have hi4 : ∀ w ∈ wsX40, w ∈ wzX4_weighSides := fun w h => List.mem_cons_of_mem _ (hbw4 w h)
  have k_m1000 : ((-1000) : Int32).toInt = -1000 := by decide +kernel
  have k_0 : (0 : Int32).toInt = 0 := by decide +kernel
  have k_1 : (1 : Int32).toInt = 1 := by decide +kernel
  have k_10 : (10 : Int32).toInt = 10 := by decide +kernel
  replace t0 : σ h0 1 = σ h0 1 := rfl
  replace t1 : σ h0 2 = σ h0 2 := rfl
  replace t2 : σ h0 3 = σ h0 3 := rfl
  have hC : zz_ch (fun a k => a = h0 ∧ (k = 1 ∨ k = 2 ∨ k = 3)) σ σ := zz_ch.rf σ
  refine lv_aload_n hx hb dX4_weighSides_0 rfl (lv_at hl 0 rfl) ?_
  refine lv_iconst (v := 0) hx hb dX4_weighSides_1 (by decide) ?_
  refine zz_puti (v := 0) (ty := .int) hx hb hts hi4 tyX4 tyX4_ok nmX4 hown hK hP hS (g0.1) rfl 1 (by decide) (hts (.fieldLink RX4 69 "NoonLaw$Sight" "bidden" "I") (List.mem_cons_of_mem _ bm_353)) rfl rfl (by decide +kernel) rfl rfl rfl dX4_weighSides_2 (fun σ1 H locs w1 hP1 hS1 => ?_)
  replace hP := hP1
  replace hS := hS1
  clear hP1 hS1
  replace hC := hC.u w1 (dS8_2 h0)
  replace t0 : σ1 h0 1 = 0 := zz_w1 w1
  replace t1 : σ1 h0 2 = σ h0 2 := (zz_w (b := h0) (j := 2) w1 (fun q9 => absurd q9.2 (by decide))).trans t1
  replace t2 : σ1 h0 3 = σ h0 3 := (zz_w (b := h0) (j := 3) w1 (fun q9 => absurd q9.2 (by decide))).trans t2
  refine lv_aload_n hx hb dX4_weighSides_5 rfl (lv_at hl 0 rfl) ?_
  refine lv_iconst (v := 0) hx hb dX4_weighSides_6 (by decide) ?_
  refine zz_puti (v := 0) (ty := .int) hx hb hts hi4 tyX4 tyX4_ok nmX4 hown hK hP hS (g0.1) rfl 2 (by decide) (hts (.fieldLink RX4 72 "NoonLaw$Sight" "banned" "I") (List.mem_cons_of_mem _ bm_354)) rfl rfl (by decide +kernel) rfl rfl rfl dX4_weighSides_7 (fun σ2 H locs w2 hP1 hS1 => ?_)
  replace hP := hP1
  replace hS := hS1
  clear hP1 hS1
  replace hC := hC.u w2 (dS8_3 h0)
  replace t0 : σ2 h0 1 = 0 := (zz_w (b := h0) (j := 1) w2 (fun q9 => absurd q9.2 (by decide))).trans t0
  replace t1 : σ2 h0 2 = 0 := zz_w1 w2
  replace t2 : σ2 h0 3 = σ h0 3 := (zz_w (b := h0) (j := 3) w2 (fun q9 => absurd q9.2 (by decide))).trans t2
  refine lv_aload_n hx hb dX4_weighSides_10 rfl (lv_at hl 0 rfl) ?_
  refine lv_iconst (v := 0) hx hb dX4_weighSides_11 (by decide) ?_
  refine zz_puti (v := 0) (ty := .int) hx hb hts hi4 tyX4 tyX4_ok nmX4 hown hK hP hS (g0.1) rfl 3 (by decide) (hts (.fieldLink RX4 75 "NoonLaw$Sight" "disputed" "I") (List.mem_cons_of_mem _ bm_355)) rfl rfl (by decide +kernel) rfl rfl rfl dX4_weighSides_12 (fun σ3 H locs w3 hP1 hS1 => ?_)
  replace hP := hP1
  replace hS := hS1
  clear hP1 hS1
  replace hC := hC.u w3 (dS8_4 h0)
  replace t0 : σ3 h0 1 = 0 := (zz_w (b := h0) (j := 1) w3 (fun q9 => absurd q9.2 (by decide))).trans t0
  replace t1 : σ3 h0 2 = 0 := (zz_w (b := h0) (j := 2) w3 (fun q9 => absurd q9.2 (by decide))).trans t1
  replace t2 : σ3 h0 3 = 0 := zz_w1 w3
  refine lv_iconst (v := 0) hx hb dX4_weighSides_15 (by decide) ?_
  refine lv_istore_n (lv' := [(1, .int 0), (0, .ref h0)]) hx hb dX4_weighSides_16 rfl hl (by decide) rfl (fun ls hl => ?_)
  have J17 : ∀ (n : Nat) (ii : Int32) (b1 : Int32) (b2 : Int32) (b3 : Int32) (σa : zz_S) (H : Heap) (locs : List Loc) (ls : Array Slot), ((10 - ii.toInt).toNat) < n → (zz_ch (fun a k => a = h0 ∧ (k = 1 ∨ k = 2 ∨ k = 3)) σ σa) → (0 ≤ ii.toInt ∧ ii.toInt ≤ 10) → (b1 = zy_st (fun m => (σ (h0 + 3) m).toInt < (σ (h0 + 2) m).toInt) ii.toInt.toNat) → (b2 = zy_st (fun m => (σ (h0 + 2) m).toInt < (σ (h0 + 3) m).toInt) ii.toInt.toNat) → (b3 = zy_st (fun m => (σ (h0 + 2) m).toInt ≠ -1000 ∧ (σ (h0 + 3) m).toInt ≠ -1000) ii.toInt.toNat) → (σa h0 1 = b1) → (σa h0 2 = b2) → (σa h0 3 = b3) → zz_P E σa H → va_S (zz_A E) s.heap H locs → lv_has ls 3 [(1, .int ii), (0, .ref h0)] → W p l e (headSpec wzX4_weighSides ({ frames := 0, cells := 0, slots := 0, locals := 0 })).room s m args below meth c H locs 0 0 (MQ below (va_Qv (fun σ1 => zz_ch (fun a k => a = h0 ∧ (k = 1 ∨ k = 2 ∨ k = 3)) σ σ1 ∧ (σ1 h0 1 = zy_st (fun m => (σ (h0 + 3) m).toInt < (σ (h0 + 2) m).toInt) 10 ∧ σ1 h0 2 = zy_st (fun m => (σ (h0 + 2) m).toInt < (σ (h0 + 3) m).toInt) 10 ∧ σ1 h0 3 = zy_st (fun m => (σ (h0 + 2) m).toInt ≠ -1000 ∧ (σ (h0 + 3) m).toInt ≠ -1000) 10)) (zz_B E) (zz_A E)) args s 0 0 (zz_A E)) (F0 m 17 ls []) := by
    intro n
    induction n with
    | zero => intro ii b1 b2 b3 σa H locs ls hm; exact absurd hm (Nat.not_lt_zero _)
    | succ n ih17 =>
      intro ii b1 b2 b3 σa H locs ls hm hC f17_0 f17_1 f17_2 f17_3 t0 t1 t2 hP hS hl
      refine lv_iload_n hx hb dX4_weighSides_17 rfl (lv_at hl 0 rfl) ?_
      refine lv_bipush (v := 10) hx hb dX4_weighSides_18 (by decide) ?_
      refine lv_icmp_ge (tgt := 117) hx hb dX4_weighSides_20 (by decide) (fun c4 => ?_) (fun c4 => ?_)
      · have c4 := zz_leT c4
        have hii : ii.toInt.toNat = 10 := by omega
        rw [hii] at f17_1 f17_2 f17_3
        exact zz_vret hx hb hr hlocks hK hP hS dX4_weighSides_117 (by exact ⟨hC, t0.trans f17_1, t1.trans f17_2, t2.trans f17_3⟩)
      · have c4 := zz_nleT c4
        refine lv_iconst (v := 1) hx hb dX4_weighSides_23 (by decide) ?_
        refine lv_iload_n hx hb dX4_weighSides_24 rfl (lv_at hl 0 rfl) ?_
        refine lv_ishl hx hb dX4_weighSides_25 ?_
        refine lv_topi (fun n5 e5 => ?_)
        skip
        refine lv_istore_n (lv' := [(2, .int n5), (1, .int ii), (0, .ref h0)]) hx hb dX4_weighSides_26 rfl hl (by decide) rfl (fun ls hl => ?_)
        have J52 : ∀ (u1 : Int32) (σb : zz_S) (H : Heap) (locs : List Loc) (ls : Array Slot),  (zz_ch (fun a k => a = h0 ∧ (k = 1 ∨ k = 2 ∨ k = 3)) σ σb) → (u1 = zy_st (fun m => (σ (h0 + 3) m).toInt < (σ (h0 + 2) m).toInt) (ii.toInt.toNat + 1)) → (σb h0 1 = u1) → (σb h0 2 = b2) → (σb h0 3 = b3) → zz_P E σb H → va_S (zz_A E) s.heap H locs → lv_has ls 3 [(2, .int n5), (1, .int ii), (0, .ref h0)] → W p l e (headSpec wzX4_weighSides ({ frames := 0, cells := 0, slots := 0, locals := 0 })).room s m args below meth c H locs 0 0 (MQ below (va_Qv (fun σ1 => zz_ch (fun a k => a = h0 ∧ (k = 1 ∨ k = 2 ∨ k = 3)) σ σ1 ∧ (σ1 h0 1 = zy_st (fun m => (σ (h0 + 3) m).toInt < (σ (h0 + 2) m).toInt) 10 ∧ σ1 h0 2 = zy_st (fun m => (σ (h0 + 2) m).toInt < (σ (h0 + 3) m).toInt) 10 ∧ σ1 h0 3 = zy_st (fun m => (σ (h0 + 2) m).toInt ≠ -1000 ∧ (σ (h0 + 3) m).toInt ≠ -1000) 10)) (zz_B E) (zz_A E)) args s 0 0 (zz_A E)) (F0 m 52 ls []) := by
          intro u1 σb H locs ls hC f52_0 t0 t1 t2 hP hS hl
          have J77 : ∀ (u2 : Int32) (σc : zz_S) (H : Heap) (locs : List Loc) (ls : Array Slot),  (zz_ch (fun a k => a = h0 ∧ (k = 1 ∨ k = 2 ∨ k = 3)) σ σc) → (u2 = zy_st (fun m => (σ (h0 + 2) m).toInt < (σ (h0 + 3) m).toInt) (ii.toInt.toNat + 1)) → (σc h0 1 = u1) → (σc h0 2 = u2) → (σc h0 3 = b3) → zz_P E σc H → va_S (zz_A E) s.heap H locs → lv_has ls 3 [(2, .int n5), (1, .int ii), (0, .ref h0)] → W p l e (headSpec wzX4_weighSides ({ frames := 0, cells := 0, slots := 0, locals := 0 })).room s m args below meth c H locs 0 0 (MQ below (va_Qv (fun σ1 => zz_ch (fun a k => a = h0 ∧ (k = 1 ∨ k = 2 ∨ k = 3)) σ σ1 ∧ (σ1 h0 1 = zy_st (fun m => (σ (h0 + 3) m).toInt < (σ (h0 + 2) m).toInt) 10 ∧ σ1 h0 2 = zy_st (fun m => (σ (h0 + 2) m).toInt < (σ (h0 + 3) m).toInt) 10 ∧ σ1 h0 3 = zy_st (fun m => (σ (h0 + 2) m).toInt ≠ -1000 ∧ (σ (h0 + 3) m).toInt ≠ -1000) 10)) (zz_B E) (zz_A E)) args s 0 0 (zz_A E)) (F0 m 77 ls []) := by
            intro u2 σc H locs ls hC f77_0 t0 t1 t2 hP hS hl
            refine lv_aload_n hx hb dX4_weighSides_77 rfl (lv_at hl 2 rfl) ?_
            refine zz_getr hx hb hts hi4 hown hK hP (g0.1) rfl 6 (by decide) (hts (.fieldLink RX4 15 "NoonLaw$Sight" "bid" "[I") (List.mem_cons_of_mem _ bm_83)) rfl rfl dX4_weighSides_78 ?_
            refine lv_iload_n hx hb dX4_weighSides_81 rfl (lv_at hl 1 rfl) ?_
            refine zz_ialds (σ0 := σ) hx hb hK hP (g0.2.2.1) (fun k => hC _ k (by first | (dsimp only; omega) | omega)) (by omega) (by omega) dX4_weighSides_82 (fun j6 q6 r6 => ?_)
            have hz2 : (σ (h0 + 2) ii.toInt.toNat).toInt = (σ (h0 + 2) j6).toInt := by rw [show ii.toInt.toNat = j6 from by omega]
            refine lv_sipush (v := (-1000)) hx hb dX4_weighSides_83 (by decide) ?_
            refine lv_icmp_eq (tgt := 111) hx hb dX4_weighSides_86 (by decide) (fun c7 => ?_) (fun c7 => ?_)
            · have c7 := zz_eqT c7
              obtain ⟨n8, e8⟩ : ∃ y : Int32, y = ii + 1 := ⟨_, rfl⟩
              have f8 : n8.toInt = (ii).toInt + (1) := by have h9 := zz_addT e8 (by omega) (by omega); omega
              refine lv_iinc (v := n8) (lv' := [(1, .int n8), (2, .int n5), (0, .ref h0)]) hx hb dX4_weighSides_111 hl (k := 1) rfl (by rw [e8]; rfl) (by decide) rfl (fun ls hl => ?_)
              refine lv_goto (tgt := 17) hx hb dX4_weighSides_114 (by decide) ?_
              exact ih17 n8 u1 u2 b3 σc _ _ _ (by omega) hC (by omega) (by rw [show n8.toInt.toNat = ii.toInt.toNat + 1 from by omega]; exact f52_0) (by rw [show n8.toInt.toNat = ii.toInt.toNat + 1 from by omega]; exact f77_0) (by rw [show n8.toInt.toNat = ii.toInt.toNat + 1 from by omega]; exact zy_st_no (show ¬ ((σ (h0 + 2) ii.toInt.toNat).toInt ≠ -1000 ∧ (σ (h0 + 3) ii.toInt.toNat).toInt ≠ -1000) from by omega) f17_3 rfl) t0 t1 t2 hP hS (lv_sub hl [0, 2] rfl)
            · have c7 := zz_neT c7
              refine lv_aload_n hx hb dX4_weighSides_89 rfl (lv_at hl 2 rfl) ?_
              refine zz_getr hx hb hts hi4 hown hK hP (g0.1) rfl 7 (by decide) (hts (.fieldLink RX4 18 "NoonLaw$Sight" "ban" "[I") (List.mem_cons_of_mem _ bm_84)) rfl rfl dX4_weighSides_90 ?_
              refine lv_iload_n hx hb dX4_weighSides_93 rfl (lv_at hl 1 rfl) ?_
              refine zz_ialds (σ0 := σ) hx hb hK hP (g0.2.2.2) (fun k => hC _ k (by first | (dsimp only; omega) | omega)) (by omega) (by omega) dX4_weighSides_94 (fun j9 q9 r9 => ?_)
              have hz3 : (σ (h0 + 3) ii.toInt.toNat).toInt = (σ (h0 + 3) j9).toInt := by rw [show ii.toInt.toNat = j9 from by omega]
              refine lv_sipush (v := (-1000)) hx hb dX4_weighSides_95 (by decide) ?_
              refine lv_icmp_eq (tgt := 111) hx hb dX4_weighSides_98 (by decide) (fun c10 => ?_) (fun c10 => ?_)
              · have c10 := zz_eqT c10
                obtain ⟨n11, e11⟩ : ∃ y : Int32, y = ii + 1 := ⟨_, rfl⟩
                have f11 : n11.toInt = (ii).toInt + (1) := by have h9 := zz_addT e11 (by omega) (by omega); omega
                refine lv_iinc (v := n11) (lv' := [(1, .int n11), (2, .int n5), (0, .ref h0)]) hx hb dX4_weighSides_111 hl (k := 1) rfl (by rw [e11]; rfl) (by decide) rfl (fun ls hl => ?_)
                refine lv_goto (tgt := 17) hx hb dX4_weighSides_114 (by decide) ?_
                exact ih17 n11 u1 u2 b3 σc _ _ _ (by omega) hC (by omega) (by rw [show n11.toInt.toNat = ii.toInt.toNat + 1 from by omega]; exact f52_0) (by rw [show n11.toInt.toNat = ii.toInt.toNat + 1 from by omega]; exact f77_0) (by rw [show n11.toInt.toNat = ii.toInt.toNat + 1 from by omega]; exact zy_st_no (show ¬ ((σ (h0 + 2) ii.toInt.toNat).toInt ≠ -1000 ∧ (σ (h0 + 3) ii.toInt.toNat).toInt ≠ -1000) from by omega) f17_3 rfl) t0 t1 t2 hP hS (lv_sub hl [0, 2] rfl)
              · have c10 := zz_neT c10
                skip
                refine lv_aload_n hx hb dX4_weighSides_101 rfl (lv_at hl 2 rfl) ?_
                refine lv_dup hx hb dX4_weighSides_102 rfl ?_
                refine zz_geti hx hb hts hi4 hown hK hP (g0.1) rfl 3 (by decide) (hts (.fieldLink RX4 75 "NoonLaw$Sight" "disputed" "I") (List.mem_cons_of_mem _ bm_355)) rfl rfl t2 dX4_weighSides_103 ?_
                refine lv_iload_n hx hb dX4_weighSides_106 rfl (lv_at hl 0 rfl) ?_
                refine lv_ior hx hb dX4_weighSides_107 ?_
                refine lv_topi (fun n12 e12 => ?_)
                refine zz_puti (v := n12) (ty := .int) hx hb hts hi4 tyX4 tyX4_ok nmX4 hown hK hP hS (g0.1) rfl 3 (by decide) (hts (.fieldLink RX4 75 "NoonLaw$Sight" "disputed" "I") (List.mem_cons_of_mem _ bm_355)) rfl rfl (by decide +kernel) rfl rfl rfl dX4_weighSides_108 (fun σ13 H locs w13 hP1 hS1 => ?_)
                replace hP := hP1
                replace hS := hS1
                clear hP1 hS1
                replace hC := hC.u w13 (dS8_4 h0)
                replace t0 : σ13 h0 1 = u1 := (zz_w (b := h0) (j := 1) w13 (fun q9 => absurd q9.2 (by decide))).trans t0
                replace t1 : σ13 h0 2 = u2 := (zz_w (b := h0) (j := 2) w13 (fun q9 => absurd q9.2 (by decide))).trans t1
                replace t2 : σ13 h0 3 = n12 := zz_w1 w13
                obtain ⟨n14, e14⟩ : ∃ y : Int32, y = ii + 1 := ⟨_, rfl⟩
                have f14 : n14.toInt = (ii).toInt + (1) := by have h9 := zz_addT e14 (by omega) (by omega); omega
                refine lv_iinc (v := n14) (lv' := [(1, .int n14), (2, .int n5), (0, .ref h0)]) hx hb dX4_weighSides_111 hl (k := 1) rfl (by rw [e14]; rfl) (by decide) rfl (fun ls hl => ?_)
                refine lv_goto (tgt := 17) hx hb dX4_weighSides_114 (by decide) ?_
                exact ih17 n14 u1 u2 n12 σ13 _ _ _ (by omega) hC (by omega) (by rw [show n14.toInt.toNat = ii.toInt.toNat + 1 from by omega]; exact f52_0) (by rw [show n14.toInt.toNat = ii.toInt.toNat + 1 from by omega]; exact f77_0) (by rw [show n14.toInt.toNat = ii.toInt.toNat + 1 from by omega]; exact zy_st_in (show (σ (h0 + 2) ii.toInt.toNat).toInt ≠ -1000 ∧ (σ (h0 + 3) ii.toInt.toNat).toInt ≠ -1000 from by omega) f17_3 (i := ii) (by omega) e5 e12 rfl) t0 t1 t2 hP hS (lv_sub hl [0, 2] rfl)
          refine lv_aload_n hx hb dX4_weighSides_52 rfl (lv_at hl 2 rfl) ?_
          refine zz_getr hx hb hts hi4 hown hK hP (g0.1) rfl 6 (by decide) (hts (.fieldLink RX4 15 "NoonLaw$Sight" "bid" "[I") (List.mem_cons_of_mem _ bm_83)) rfl rfl dX4_weighSides_53 ?_
          refine lv_iload_n hx hb dX4_weighSides_56 rfl (lv_at hl 1 rfl) ?_
          refine zz_ialds (σ0 := σ) hx hb hK hP (g0.2.2.1) (fun k => hC _ k (by first | (dsimp only; omega) | omega)) (by omega) (by omega) dX4_weighSides_57 (fun j15 q15 r15 => ?_)
          refine lv_aload_n hx hb dX4_weighSides_58 rfl (lv_at hl 2 rfl) ?_
          refine zz_getr hx hb hts hi4 hown hK hP (g0.1) rfl 7 (by decide) (hts (.fieldLink RX4 18 "NoonLaw$Sight" "ban" "[I") (List.mem_cons_of_mem _ bm_84)) rfl rfl dX4_weighSides_59 ?_
          refine lv_iload_n hx hb dX4_weighSides_62 rfl (lv_at hl 1 rfl) ?_
          refine zz_ialds (σ0 := σ) hx hb hK hP (g0.2.2.2) (fun k => hC _ k (by first | (dsimp only; omega) | omega)) (by omega) (by omega) dX4_weighSides_63 (fun j16 q16 r16 => ?_)
          have hy2 : (σ (h0 + 2) ii.toInt.toNat).toInt = (σ (h0 + 2) j15).toInt := by rw [show ii.toInt.toNat = j15 from by omega]
          have hy3 : (σ (h0 + 3) ii.toInt.toNat).toInt = (σ (h0 + 3) j16).toInt := by rw [show ii.toInt.toNat = j16 from by omega]
          refine lv_icmp_ge (tgt := 77) hx hb dX4_weighSides_64 (by decide) (fun c17 => ?_) (fun c17 => ?_)
          · have c17 := zz_leT c17
            exact J77 b2 σb _ _ _ hC (by exact zy_st_no (show ¬ ((σ (h0 + 2) ii.toInt.toNat).toInt < (σ (h0 + 3) ii.toInt.toNat).toInt) from by omega) f17_2 rfl) t0 t1 t2 hP hS (lv_sub hl [0, 1, 2] rfl)
          · have c17 := zz_nleT c17
            skip
            refine lv_aload_n hx hb dX4_weighSides_67 rfl (lv_at hl 2 rfl) ?_
            refine lv_dup hx hb dX4_weighSides_68 rfl ?_
            refine zz_geti hx hb hts hi4 hown hK hP (g0.1) rfl 2 (by decide) (hts (.fieldLink RX4 72 "NoonLaw$Sight" "banned" "I") (List.mem_cons_of_mem _ bm_354)) rfl rfl t1 dX4_weighSides_69 ?_
            refine lv_iload_n hx hb dX4_weighSides_72 rfl (lv_at hl 0 rfl) ?_
            refine lv_ior hx hb dX4_weighSides_73 ?_
            refine lv_topi (fun n18 e18 => ?_)
            refine zz_puti (v := n18) (ty := .int) hx hb hts hi4 tyX4 tyX4_ok nmX4 hown hK hP hS (g0.1) rfl 2 (by decide) (hts (.fieldLink RX4 72 "NoonLaw$Sight" "banned" "I") (List.mem_cons_of_mem _ bm_354)) rfl rfl (by decide +kernel) rfl rfl rfl dX4_weighSides_74 (fun σ19 H locs w19 hP1 hS1 => ?_)
            replace hP := hP1
            replace hS := hS1
            clear hP1 hS1
            replace hC := hC.u w19 (dS8_3 h0)
            replace t0 : σ19 h0 1 = u1 := (zz_w (b := h0) (j := 1) w19 (fun q9 => absurd q9.2 (by decide))).trans t0
            replace t1 : σ19 h0 2 = n18 := zz_w1 w19
            replace t2 : σ19 h0 3 = b3 := (zz_w (b := h0) (j := 3) w19 (fun q9 => absurd q9.2 (by decide))).trans t2
            exact J77 n18 σ19 _ _ _ hC (by exact zy_st_in (show (σ (h0 + 2) ii.toInt.toNat).toInt < (σ (h0 + 3) ii.toInt.toNat).toInt from by omega) f17_2 (i := ii) (by omega) e5 e18 rfl) t0 t1 t2 hP hS (lv_sub hl [0, 1, 2] rfl)
        refine lv_aload_n hx hb dX4_weighSides_27 rfl (lv_at hl 2 rfl) ?_
        refine zz_getr hx hb hts hi4 hown hK hP (g0.1) rfl 6 (by decide) (hts (.fieldLink RX4 15 "NoonLaw$Sight" "bid" "[I") (List.mem_cons_of_mem _ bm_83)) rfl rfl dX4_weighSides_28 ?_
        refine lv_iload_n hx hb dX4_weighSides_31 rfl (lv_at hl 1 rfl) ?_
        refine zz_ialds (σ0 := σ) hx hb hK hP (g0.2.2.1) (fun k => hC _ k (by first | (dsimp only; omega) | omega)) (by omega) (by omega) dX4_weighSides_32 (fun j20 q20 r20 => ?_)
        refine lv_aload_n hx hb dX4_weighSides_33 rfl (lv_at hl 2 rfl) ?_
        refine zz_getr hx hb hts hi4 hown hK hP (g0.1) rfl 7 (by decide) (hts (.fieldLink RX4 18 "NoonLaw$Sight" "ban" "[I") (List.mem_cons_of_mem _ bm_84)) rfl rfl dX4_weighSides_34 ?_
        refine lv_iload_n hx hb dX4_weighSides_37 rfl (lv_at hl 1 rfl) ?_
        refine zz_ialds (σ0 := σ) hx hb hK hP (g0.2.2.2) (fun k => hC _ k (by first | (dsimp only; omega) | omega)) (by omega) (by omega) dX4_weighSides_38 (fun j21 q21 r21 => ?_)
        have hx2 : (σ (h0 + 2) ii.toInt.toNat).toInt = (σ (h0 + 2) j20).toInt := by rw [show ii.toInt.toNat = j20 from by omega]
        have hx3 : (σ (h0 + 3) ii.toInt.toNat).toInt = (σ (h0 + 3) j21).toInt := by rw [show ii.toInt.toNat = j21 from by omega]
        refine lv_icmp_le (tgt := 52) hx hb dX4_weighSides_39 (by decide) (fun c22 => ?_) (fun c22 => ?_)
        · have c22 := zz_leT c22
          exact J52 b1 σa _ _ _ hC (by exact zy_st_no (show ¬ ((σ (h0 + 3) ii.toInt.toNat).toInt < (σ (h0 + 2) ii.toInt.toNat).toInt) from by omega) f17_1 rfl) t0 t1 t2 hP hS (lv_sub hl [0, 1, 2] rfl)
        · have c22 := zz_nleT c22
          skip
          refine lv_aload_n hx hb dX4_weighSides_42 rfl (lv_at hl 2 rfl) ?_
          refine lv_dup hx hb dX4_weighSides_43 rfl ?_
          refine zz_geti hx hb hts hi4 hown hK hP (g0.1) rfl 1 (by decide) (hts (.fieldLink RX4 69 "NoonLaw$Sight" "bidden" "I") (List.mem_cons_of_mem _ bm_353)) rfl rfl t0 dX4_weighSides_44 ?_
          refine lv_iload_n hx hb dX4_weighSides_47 rfl (lv_at hl 0 rfl) ?_
          refine lv_ior hx hb dX4_weighSides_48 ?_
          refine lv_topi (fun n23 e23 => ?_)
          refine zz_puti (v := n23) (ty := .int) hx hb hts hi4 tyX4 tyX4_ok nmX4 hown hK hP hS (g0.1) rfl 1 (by decide) (hts (.fieldLink RX4 69 "NoonLaw$Sight" "bidden" "I") (List.mem_cons_of_mem _ bm_353)) rfl rfl (by decide +kernel) rfl rfl rfl dX4_weighSides_49 (fun σ24 H locs w24 hP1 hS1 => ?_)
          replace hP := hP1
          replace hS := hS1
          clear hP1 hS1
          replace hC := hC.u w24 (dS8_2 h0)
          replace t0 : σ24 h0 1 = n23 := zz_w1 w24
          replace t1 : σ24 h0 2 = b2 := (zz_w (b := h0) (j := 2) w24 (fun q9 => absurd q9.2 (by decide))).trans t1
          replace t2 : σ24 h0 3 = b3 := (zz_w (b := h0) (j := 3) w24 (fun q9 => absurd q9.2 (by decide))).trans t2
          exact J52 n23 σ24 _ _ _ hC (by exact zy_st_in (show (σ (h0 + 3) ii.toInt.toNat).toInt < (σ (h0 + 2) ii.toInt.toNat).toInt from by omega) f17_1 (i := ii) (by omega) e5 e23 rfl) t0 t1 t2 hP hS (lv_sub hl [0, 1, 2] rfl)
  exact J17 _ 0 0 0 0 σ3 _ _ _ (Nat.lt_succ_self _) hC (by omega) (by rw [show (0 : Int32).toInt.toNat = 0 from by decide]; rfl) (by rw [show (0 : Int32).toInt.toNat = 0 from by decide]; rfl) (by rw [show (0 : Int32).toInt.toNat = 0 from by decide]; rfl) t0 t1 t2 hP hS (lv_sub hl [0, 1] rfl)
theorem gX4_look_X8_isMatter_n42 : GoodIn wzX4_look (wzX8_isMatter) := wz_in bm_346
theorem gX4_look_X0_isInForce : GoodIn wzX4_look (wsV RX4 49 RX0 yX0_isInForce wzX0_isInForce) := wz_co bm_347 (wz_co bm_174 (wz_co bm_175 (wz_co bm_54 (wz_in bm_176))))
theorem gX4_look_X2_weight : GoodIn wzX4_look (wsV RX4 53 RX2 yX2_weight wzX2_weight) := wz_co bm_348 (wz_co bm_202 (wz_co bm_203 (wz_co bm_15 (wz_in bm_204))))
theorem gX4_look_X4_weighSides : GoodIn wzX4_look (wsV RX4 66 RX4 yX4_weighSides wzX4_weighSides) := wz_co bm_349 (wz_co bm_350 (wz_co bm_351 (wz_co bm_30 (wz_in bm_352))))
theorem dS8_5 (x0 x1 : Nat) : ∀ a k : Nat, (a = (x0) ∧ (k = 1 ∨ k = 2 ∨ k = 3)) → ((x0 ≤ a ∧ a < x0 + 4) ∨ a = x1 + 23 ∨ a = x1 + 26) := by intro a k h; omega
theorem dS8_6 (x0 : Nat) : ¬ ((x0) = (x0) ∧ ((4) = 1 ∨ (4) = 2 ∨ (4) = 3)) := by omega
theorem dS8_7 (x0 : Nat) : ¬ ((x0) = (x0) ∧ ((0) = 1 ∨ (0) = 2 ∨ (0) = 3)) := by omega
theorem dS8_8 (x0 x1 : Nat) : ∀ a k : Nat, (a = (x1) + 23 ∨ a = (x1) + 26) → ((x0 ≤ a ∧ a < x0 + 4) ∨ a = x1 + 23 ∨ a = x1 + 26) := by intro a k h; omega
theorem dS8_9 (x0 : Nat) : ¬ ((x0) = (x0) + 23 ∨ (x0) = (x0) + 26) := by omega
set_option maxHeartbeats 4000000 in
set_option maxRecDepth 100000 in
theorem c_X4_look (l : Launch) (E : zz_E) (σ : zz_S) (h0 : Nat) (h1 : Nat) (hour : Int32) (g0 : zz_Si E h0) (g_h1 : zz_R E h1) (hd : 0 ≤ (σ h1 4).toInt ∧ (σ h1 4).toInt ≤ 9) (ht : ∀ j : Nat, j < 2 → 0 ≤ (σ (h1 + 21 + 3 * j) 1).toInt ∧ (σ (h1 + 21 + 3 * j) 1).toInt ≤ 60) (hap : h1 + 27 ≤ h0 ∨ h0 + 4 ≤ h1) (hhr : 0 ≤ hour.toInt ∧ hour.toInt ≤ 20000) (K : zy_W) (hW : zy_XW σ h1 K) : Met l yX4_look wzX4_look ({ frames := 4, cells := 0, slots := 0, locals := 96 }) (va_Pc [.ref h0, .ref h1, .int hour] (zz_B E σ)) (va_Qv (fun σ1 => zz_ch (fun a k => (h0 ≤ a ∧ a < h0 + 4) ∨ a = h1 + 23 ∨ a = h1 + 26) σ σ1 ∧ (zy_SG σ1 h0 K hour.toInt)) (zz_B E) (zz_A E)) 0 0 (zz_A E) := by
  refine zz_met (cc := cX4_look) (maxL := 6) (ret := none) (by decide) rfl (Nat.le_of_ble_eq_true rfl) ?_
  intro p e s m args below meth c ls hx hb hr hts hown hlocks hml hK hP hS hl
  have hl : lv_has ls 6 [(0, .ref h0), (1, .ref h1), (2, .int hour)] := hl
  have hown : s.vm.findClass RX4 = some m.cls := hown
  have hi0 : ∀ w ∈ wsX00, w ∈ wzX4_look := fun w h => List.mem_cons_of_mem _ (hbw0 w h)
  have hi2 : ∀ w ∈ wsX20, w ∈ wzX4_look := fun w h => List.mem_cons_of_mem _ (hbw2 w h)
  have hi4 : ∀ w ∈ wsX40, w ∈ wzX4_look := fun w h => List.mem_cons_of_mem _ (hbw4 w h)
  have k_m1000 : ((-1000) : Int32).toInt = -1000 := by decide +kernel
  have k_0 : (0 : Int32).toInt = 0 := by decide +kernel
  have k_1 : (1 : Int32).toInt = 1 := by decide +kernel
  have k_10 : (10 : Int32).toInt = 10 := by decide +kernel
  have k_24 : (24 : Int32).toInt = 24 := by decide +kernel
  replace t0 : σ h1 4 = σ h1 4 := rfl
  replace t1 : σ h1 1 = σ h1 1 := rfl
  replace t2 : σ h0 4 = σ h0 4 := rfl
  replace t3 : σ h0 0 = σ h0 0 := rfl
  have hC : zz_ch (fun a k => (h0 ≤ a ∧ a < h0 + 4) ∨ a = h1 + 23 ∨ a = h1 + 26) σ σ := zz_ch.rf σ
  have hcn := hW.2.1
  have hsl9 := hW.2.2.2.2.2.2.2
  have hsl8 := hW.2.2.1
  refine lv_aload_n hx hb dX4_look_0 rfl (lv_at hl 0 rfl) ?_
  refine lv_iload_n hx hb dX4_look_1 rfl (lv_at hl 2 rfl) ?_
  refine lv_bipush (v := 24) hx hb dX4_look_2 (by decide) ?_
  refine lv_irem hx hb dX4_look_4 (by decide) ?_
  refine lv_topi (fun n1 e1 => ?_)
  have f1 : n1.toInt = (hour).toInt % 24 := zz_remT 24 e1 (by decide) (by omega)
  refine zz_puti (v := n1) (ty := .int) hx hb hts hi4 tyX4 tyX4_ok nmX4 hown hK hP hS (g0.1) rfl 4 (by decide) (hts (.fieldLink RX4 21 "NoonLaw$Sight" "hourOfDay" "I") (List.mem_cons_of_mem _ bm_337)) rfl rfl (by decide +kernel) rfl rfl rfl dX4_look_5 (fun σ2 H locs w2 hP1 hS1 => ?_)
  replace hP := hP1
  replace hS := hS1
  clear hP1 hS1
  replace hC := hC.u w2 (by first | (dsimp only; omega) | omega | (dsimp only; done))
  replace t0 : σ2 h1 4 = σ h1 4 := (zz_w (b := h1) (j := 4) w2 (by omega)).trans t0
  replace t1 : σ2 h1 1 = σ h1 1 := (zz_w (b := h1) (j := 1) w2 (by omega)).trans t1
  replace t2 : σ2 h0 4 = n1 := zz_w1 w2
  replace t3 : σ2 h0 0 = σ h0 0 := (zz_w (b := h0) (j := 0) w2 (fun q9 => absurd q9.2 (by decide))).trans t3
  refine lv_aload_n hx hb dX4_look_8 rfl (lv_at hl 0 rfl) ?_
  refine lv_iconst (v := 0) hx hb dX4_look_9 (by decide) ?_
  refine zz_puti (v := 0) (ty := .int) hx hb hts hi4 tyX4 tyX4_ok nmX4 hown hK hP hS (g0.1) rfl 0 (by decide) (hts (.fieldLink RX4 25 "NoonLaw$Sight" "inForce" "I") (List.mem_cons_of_mem _ bm_338)) rfl rfl (by decide +kernel) rfl rfl rfl dX4_look_10 (fun σ3 H locs w3 hP1 hS1 => ?_)
  replace hP := hP1
  replace hS := hS1
  clear hP1 hS1
  replace hC := hC.u w3 (by first | (dsimp only; omega) | omega | (dsimp only; done))
  replace t0 : σ3 h1 4 = σ h1 4 := (zz_w (b := h1) (j := 4) w3 (by omega)).trans t0
  replace t1 : σ3 h1 1 = σ h1 1 := (zz_w (b := h1) (j := 1) w3 (by omega)).trans t1
  replace t2 : σ3 h0 4 = n1 := (zz_w (b := h0) (j := 4) w3 (fun q9 => absurd q9.2 (by decide))).trans t2
  replace t3 : σ3 h0 0 = 0 := zz_w1 w3
  refine lv_iconst (v := 0) hx hb dX4_look_13 (by decide) ?_
  refine lv_istore_n (lv' := [(3, .int 0), (0, .ref h0), (1, .ref h1), (2, .int hour)]) hx hb dX4_look_14 rfl hl (by decide) rfl (fun ls hl => ?_)
  have J15 : ∀ (n : Nat) (ii : Int32) (σa : zz_S) (H : Heap) (locs : List Loc) (ls : Array Slot), ((10 - ii.toInt).toNat) < n → (zz_ch (fun a k => (h0 ≤ a ∧ a < h0 + 4) ∨ a = h1 + 23 ∨ a = h1 + 26) σ σa) → (0 ≤ ii.toInt ∧ ii.toInt ≤ 10) → (∀ m : Nat, (m : Int) < ii.toInt → (σa (h0 + 2) m).toInt = -1000 ∧ (σa (h0 + 3) m).toInt = -1000) → (σa h1 4 = σ h1 4) → (σa h1 1 = σ h1 1) → (σa h0 4 = n1) → (σa h0 0 = 0) → zz_P E σa H → va_S (zz_A E) s.heap H locs → lv_has ls 6 [(3, .int ii), (0, .ref h0), (1, .ref h1), (2, .int hour)] → W p l e (headSpec wzX4_look ({ frames := 4, cells := 0, slots := 0, locals := 96 })).room s m args below meth c H locs 0 0 (MQ below (va_Qv (fun σ1 => zz_ch (fun a k => (h0 ≤ a ∧ a < h0 + 4) ∨ a = h1 + 23 ∨ a = h1 + 26) σ σ1 ∧ (zy_SG σ1 h0 K hour.toInt)) (zz_B E) (zz_A E)) args s 0 0 (zz_A E)) (F0 m 15 ls []) := by
    intro n
    induction n with
    | zero => intro ii σa H locs ls hm; exact absurd hm (Nat.not_lt_zero _)
    | succ n ih15 =>
      intro ii σa H locs ls hm hC f15_0 f15_1 t0 t1 t2 t3 hP hS hl
      refine lv_iload_n hx hb dX4_look_15 rfl (lv_at hl 0 rfl) ?_
      refine lv_bipush (v := 10) hx hb dX4_look_16 (by decide) ?_
      refine lv_icmp_ge (tgt := 45) hx hb dX4_look_18 (by decide) (fun c4 => ?_) (fun c4 => ?_)
      · have c4 := zz_leT c4
        refine lv_iconst (v := 0) hx hb dX4_look_45 (by decide) ?_
        refine lv_istore_n (lv' := [(3, .int 0), (0, .ref h0), (1, .ref h1), (2, .int hour)]) hx hb dX4_look_46 rfl hl (by decide) rfl (fun ls hl => ?_)
        have J47 : ∀ (n : Nat) (ii : Int32) (iv : Int32) (σb : zz_S) (H : Heap) (locs : List Loc) (ls : Array Slot), ((9 - ii.toInt).toNat) < n → (zz_ch (fun a k => (h0 ≤ a ∧ a < h0 + 4) ∨ a = h1 + 23 ∨ a = h1 + 26) σ σb) → (0 ≤ ii.toInt ∧ ii.toInt ≤ (σ h1 4).toInt) → (zy_lk σb h0 K hour.toInt ii.toInt.toNat) → (σb h1 4 = σ h1 4) → (σb h1 1 = σ h1 1) → (σb h0 4 = n1) → (σb h0 0 = iv) → zz_P E σb H → va_S (zz_A E) s.heap H locs → lv_has ls 6 [(3, .int ii), (0, .ref h0), (1, .ref h1), (2, .int hour)] → W p l e (headSpec wzX4_look ({ frames := 4, cells := 0, slots := 0, locals := 96 })).room s m args below meth c H locs 0 0 (MQ below (va_Qv (fun σ1 => zz_ch (fun a k => (h0 ≤ a ∧ a < h0 + 4) ∨ a = h1 + 23 ∨ a = h1 + 26) σ σ1 ∧ (zy_SG σ1 h0 K hour.toInt)) (zz_B E) (zz_A E)) args s 0 0 (zz_A E)) (F0 m 47 ls []) := by
          intro n
          induction n with
          | zero => intro ii iv σb H locs ls hm; exact absurd hm (Nat.not_lt_zero _)
          | succ n ih47 =>
            intro ii iv σb H locs ls hm hC f47_0 f47_1 t0 t1 t2 t3 hP hS hl
            have hWb := hW.keep (fun a k q => hC a k (by first | (dsimp only; omega) | omega))
            have hiv9 := t3
            refine lv_iload_n hx hb dX4_look_47 rfl (lv_at hl 0 rfl) ?_
            refine lv_aload_n hx hb dX4_look_48 rfl (lv_at hl 2 rfl) ?_
            refine zz_geti hx hb hts hi2 hown hK hP (g_h1.1) rfl 4 (by decide) (hts (.fieldLink RX4 28 "NoonLaw$Realm" "dreamCount" "I") (List.mem_cons_of_mem _ bm_339)) rfl rfl t0 dX4_look_49 ?_
            refine lv_icmp_ge (tgt := 165) hx hb dX4_look_52 (by decide) (fun c5 => ?_) (fun c5 => ?_)
            · have c5 := zz_leT c5
              refine lv_aload_n hx hb dX4_look_165 rfl (lv_at hl 1 rfl) ?_
              refine zz_callVv (As := []) (rest := []) ⟨hx, hb, hml, hown, hts⟩ hK hP hS (c_X4_weighSides l E σb h0 g0) (cwV 0 hts gX4_look_X4_weighSides rfl rfl rfl (by decide +kernel) ⟨Nat.le_of_ble_eq_true rfl, Nat.le_of_ble_eq_true rfl⟩) (g0.1) rfl rfl hl.1 rfl (Nat.le_of_ble_eq_true rfl) dX4_look_166 ⟨Nat.zero_le _, Nat.zero_le _⟩ (fun σ6 H locs q6 hP1 hS1 => ?_)
              replace hP := hP1
              replace hS := hS1
              clear hP1 hS1
              try dsimp only at q6
              obtain ⟨w6, f6⟩ := q6
              replace hC := hC.tr (w6.mono (dS8_5 h0 h1))
              try simp only [t0, t1, t2, t3] at f6
              replace t0 : σ6 h1 4 = σ h1 4 := (w6 _ _ (by first | (dsimp only; omega) | omega)).trans t0
              replace t1 : σ6 h1 1 = σ h1 1 := (w6 _ _ (by first | (dsimp only; omega) | omega)).trans t1
              replace t2 : σ6 h0 4 = n1 := (w6 h0 4 (dS8_6 h0)).trans t2
              replace t3 : σ6 h0 0 = iv := (w6 h0 0 (dS8_7 h0)).trans t3
              exact zz_vret hx hb hr hlocks hK hP hS dX4_look_169 (by exact ⟨hC, zy_SG.mk f47_1 (by omega) (fun a k q => w6 a k q) f6⟩)
            · have c5 := zz_nleT c5
              refine lv_aload_n hx hb dX4_look_55 rfl (lv_at hl 2 rfl) ?_
              refine zz_getr hx hb hts hi2 hown hK hP (g_h1.1) rfl 3 (by decide) (hts (.fieldLink RX4 33 "NoonLaw$Realm" "dreams" "[LNoonLaw$Dream;") (List.mem_cons_of_mem _ bm_340)) rfl rfl dX4_look_56 ?_
              refine lv_iload_n hx hb dX4_look_59 rfl (lv_at hl 0 rfl) ?_
              refine zz_aald hx hb hK hP (g_h1.2.1) rfl (by omega) (by omega) dX4_look_60 (fun j7 q7 r7 => ?_)
              refine lv_astore (lv' := [(4, .ref (h1 + 6 + 1 * j7)), (3, .int ii), (0, .ref h0), (1, .ref h1), (2, .int hour)]) hx hb dX4_look_61 hl (by decide) rfl (fun ls hl => ?_)
              have hce := hW.cell (j := j7) r7
              have hcb := hWb.cell (j := j7) r7
              have he2 := hW.at (j := j7) r7 (show 2 < 6 by decide)
              have he3 := hW.at (j := j7) r7 (show 3 < 6 by decide)
              have hlk : zy_lk σb h0 K hour.toInt j7 := by rw [show j7 = ii.toInt.toNat from by omega]; exact f47_1
              refine lv_aload hx hb dX4_look_63 (lv_at hl 0 rfl) ?_
              refine zz_geti hx hb hts hi0 hown hK hP ((g_h1.2.2.2.2.2.2.1 j7 r7)) rfl 2 (by decide) (hts (.fieldLink RX4 37 "NoonLaw$Dream" "matter" "I") (List.mem_cons_of_mem _ bm_341)) rfl rfl (hC (h1 + 6 + 1 * j7) 2 (by first | (dsimp only; omega) | omega | (dsimp only; done))) dX4_look_65 ?_
              refine zz_callNp (As := [.int (σ (h1 + 6 + 1 * j7) 2)]) (rest := []) ⟨hx, hb, hml, hown, hts⟩ hK hP hS (c_X8_isMatter l E σb (σ (h1 + 6 + 1 * j7) 2)) ⟨va_cnB 1 hts gX4_look_X8_isMatter_n42 rfl rfl rfl (hK.2.2.2.1) (hts (.initialized RX8) (List.mem_cons_of_mem _ bm_2)) (by decide +kernel) ⟨Nat.le_of_ble_eq_true rfl, Nat.le_of_ble_eq_true rfl⟩, hts (.static yX8_isMatter) (by decide +kernel), trivial⟩ rfl hl.1 rfl (Nat.le_of_ble_eq_true rfl) dX4_look_68 ⟨Nat.zero_le _, Nat.zero_le _⟩ (fun r8 H locs f8 hP1 hS1 => ?_)
              replace hP := hP1
              replace hS := hS1
              clear hP1 hS1
              refine lv_if_eq (tgt := 159) hx hb dX4_look_71 (by decide) (fun c9 => ?_) (fun c9 => ?_)
              · have c9 := zz_eqT c9
                obtain ⟨n10, e10⟩ : ∃ y : Int32, y = ii + 1 := ⟨_, rfl⟩
                have f10 : n10.toInt = (ii).toInt + (1) := by have h9 := zz_addT e10 (by omega) (by omega); omega
                refine lv_iinc (v := n10) (lv' := [(3, .int n10), (4, .ref (h1 + 6 + 1 * j7)), (0, .ref h0), (1, .ref h1), (2, .int hour)]) hx hb dX4_look_159 hl (k := 1) rfl (by rw [e10]; rfl) (by decide) rfl (fun ls hl => ?_)
                refine lv_goto (tgt := 47) hx hb dX4_look_162 (by decide) ?_
                exact ih47 n10 iv σb _ _ _ (by omega) hC (by omega) (by exfalso; omega) t0 t1 t2 t3 hP hS (lv_sub hl [0, 2, 3, 4] rfl)
              · have c9 := zz_neT c9
                refine lv_aload hx hb dX4_look_74 (lv_at hl 0 rfl) ?_
                refine lv_iload_n hx hb dX4_look_76 rfl (lv_at hl 4 rfl) ?_
                refine lv_aload_n hx hb dX4_look_77 rfl (lv_at hl 3 rfl) ?_
                refine zz_geti hx hb hts hi2 hown hK hP (g_h1.1) rfl 1 (by decide) (hts (.fieldLink RX4 46 "NoonLaw$Realm" "sleep" "I") (List.mem_cons_of_mem _ bm_342)) rfl rfl t1 dX4_look_78 ?_
                refine zz_callVp (As := [.int hour, .int (σ h1 1)]) (rest := []) ⟨hx, hb, hml, hown, hts⟩ hK hP hS (c_X0_isInForce l E σb (h1 + 6 + 1 * j7) hour (σ h1 1) (g_h1.2.2.2.2.2.2.1 j7 r7) (by exact hcb.1) (by exact hcb.2.1) (by exact hcb.2.2.2.2.1) (by exact hhr) (by omega)) (cwV 2 hts gX4_look_X0_isInForce rfl rfl rfl (by decide +kernel) ⟨Nat.le_of_ble_eq_true rfl, Nat.le_of_ble_eq_true rfl⟩) ((g_h1.2.2.2.2.2.2.1 j7 r7)) rfl rfl hl.1 rfl (Nat.le_of_ble_eq_true rfl) dX4_look_81 ⟨Nat.zero_le _, Nat.zero_le _⟩ (fun r11 H locs f11 hP1 hS1 => ?_)
                replace hP := hP1
                replace hS := hS1
                clear hP1 hS1
                have hF9 := hWb.F (j := j7) (hh := hour.toInt) r7 (congrArg Int32.toInt t1.symm) f11
                refine lv_if_eq (tgt := 159) hx hb dX4_look_84 (by decide) (fun c12 => ?_) (fun c12 => ?_)
                · have c12 := zz_eqT c12
                  obtain ⟨n13, e13⟩ : ∃ y : Int32, y = ii + 1 := ⟨_, rfl⟩
                  have f13 : n13.toInt = (ii).toInt + (1) := by have h9 := zz_addT e13 (by omega) (by omega); omega
                  refine lv_iinc (v := n13) (lv' := [(3, .int n13), (4, .ref (h1 + 6 + 1 * j7)), (0, .ref h0), (1, .ref h1), (2, .int hour)]) hx hb dX4_look_159 hl (k := 1) rfl (by rw [e13]; rfl) (by decide) rfl (fun ls hl => ?_)
                  refine lv_goto (tgt := 47) hx hb dX4_look_162 (by decide) ?_
                  exact ih47 n13 iv σb _ _ _ (by omega) hC (by omega) (by rw [show n13.toInt.toNat = ii.toInt.toNat + 1 from by omega]; exact f47_1.skip (by rw [show ii.toInt.toNat = j7 from by omega]; exact hF9.n (by omega)) rfl) t0 t1 t2 t3 hP hS (lv_sub hl [0, 2, 3, 4] rfl)
                · have c12 := zz_neT c12
                  skip
                  refine lv_aload_n hx hb dX4_look_87 rfl (lv_at hl 2 rfl) ?_
                  refine lv_dup hx hb dX4_look_88 rfl ?_
                  refine zz_geti hx hb hts hi4 hown hK hP (g0.1) rfl 0 (by decide) (hts (.fieldLink RX4 25 "NoonLaw$Sight" "inForce" "I") (List.mem_cons_of_mem _ bm_338)) rfl rfl t3 dX4_look_89 ?_
                  refine lv_iconst (v := 1) hx hb dX4_look_92 (by decide) ?_
                  refine lv_iload_n hx hb dX4_look_93 rfl (lv_at hl 1 rfl) ?_
                  refine lv_ishl hx hb dX4_look_94 ?_
                  refine lv_topi (fun n14 e14 => ?_)
                  refine lv_ior hx hb dX4_look_95 ?_
                  refine lv_topi (fun n15 e15 => ?_)
                  refine zz_puti (v := n15) (ty := .int) hx hb hts hi4 tyX4 tyX4_ok nmX4 hown hK hP hS (g0.1) rfl 0 (by decide) (hts (.fieldLink RX4 25 "NoonLaw$Sight" "inForce" "I") (List.mem_cons_of_mem _ bm_338)) rfl rfl (by decide +kernel) rfl rfl rfl dX4_look_96 (fun σ16 H locs w16 hP1 hS1 => ?_)
                  replace hP := hP1
                  replace hS := hS1
                  clear hP1 hS1
                  replace hC := hC.u w16 (by first | (dsimp only; omega) | omega | (dsimp only; done))
                  replace t0 : σ16 h1 4 = σ h1 4 := (zz_w (b := h1) (j := 4) w16 (by omega)).trans t0
                  replace t1 : σ16 h1 1 = σ h1 1 := (zz_w (b := h1) (j := 1) w16 (by omega)).trans t1
                  replace t2 : σ16 h0 4 = n1 := (zz_w (b := h0) (j := 4) w16 (fun q9 => absurd q9.2 (by decide))).trans t2
                  replace t3 : σ16 h0 0 = n15 := zz_w1 w16
                  refine lv_aload_n hx hb dX4_look_99 rfl (lv_at hl 2 rfl) ?_
                  refine zz_getr hx hb hts hi4 hown hK hP (g0.1) rfl 5 (by decide) (hts (.fieldLink RX4 9 "NoonLaw$Sight" "weights" "[I") (List.mem_cons_of_mem _ bm_82)) rfl rfl dX4_look_100 ?_
                  refine lv_iload_n hx hb dX4_look_103 rfl (lv_at hl 1 rfl) ?_
                  refine lv_aload_n hx hb dX4_look_104 rfl (lv_at hl 3 rfl) ?_
                  refine lv_aload hx hb dX4_look_105 (lv_at hl 0 rfl) ?_
                  refine lv_iload_n hx hb dX4_look_107 rfl (lv_at hl 4 rfl) ?_
                  have hF1 := hF9.y (by omega)
                  have hWw : zy_XW σ16 h1 K := hW.keep (fun a k q => hC a k (by first | (dsimp only; omega) | omega))
                  have hcw := hWw.cell (j := j7) r7
                  refine zz_callVi (As := [.ref (h1 + 6 + 1 * j7), .int hour]) (rest := [.int ii, .ref (h0 + 1)]) ⟨hx, hb, hml, hown, hts⟩ hK hP hS (c_X2_weight l E σ16 h1 (h1 + 6 + 1 * j7) hour g_h1 (g_h1.2.2.2.2.2.2.1 j7 r7) (by intro j hj; rw [hC _ _ (by first | (dsimp only; omega) | omega)]; exact ht j hj) K (by exact hWw) (by exact hcw.2.1) (by exact hcw.2.2.2.2.1) (by exact hhr)) (cwV 2 hts gX4_look_X2_weight rfl rfl rfl (by decide +kernel) ⟨Nat.le_of_ble_eq_true rfl, Nat.le_of_ble_eq_true rfl⟩) (g_h1.1) rfl rfl hl.1 rfl (Nat.le_of_ble_eq_true rfl) dX4_look_108 ⟨Nat.zero_le _, Nat.zero_le _⟩ (fun r17 σ17 H locs q17 hP1 hS1 => ?_)
                  replace hP := hP1
                  replace hS := hS1
                  clear hP1 hS1
                  try dsimp only at q17
                  obtain ⟨w17, f17⟩ := q17
                  replace hC := hC.tr (w17.mono (dS8_8 h0 h1))
                  try simp only [t0, t1, t2, t3] at f17
                  replace t0 : σ17 h1 4 = σ h1 4 := (w17 h1 4 (dS8_9 h1)).trans t0
                  replace t1 : σ17 h1 1 = σ h1 1 := (w17 h1 1 (dS8_9 h1)).trans t1
                  replace t2 : σ17 h0 4 = n1 := (w17 _ _ (by first | (dsimp only; omega) | omega)).trans t2
                  replace t3 : σ17 h0 0 = n15 := (w17 _ _ (by first | (dsimp only; omega) | omega)).trans t3
                  have hw9 := hWw.wt (j := j7) (hh := hour.toInt) r7 f17
                  refine zz_iast hx hb hK hP hS (g0.2.1) (by omega) (by omega) dX4_look_111 (fun j18 σ18 H locs q18 r18 w18 hP1 hS1 => ?_)
                  replace hP := hP1
                  replace hS := hS1
                  clear hP1 hS1
                  replace hC := hC.u w18 (by first | (dsimp only; omega) | omega | (dsimp only; done))
                  replace t0 : σ18 h1 4 = σ h1 4 := (zz_w (b := h1) (j := 4) w18 (by omega)).trans t0
                  replace t1 : σ18 h1 1 = σ h1 1 := (zz_w (b := h1) (j := 1) w18 (by omega)).trans t1
                  replace t2 : σ18 h0 4 = n1 := (zz_w (b := h0) (j := 4) w18 (fun q9 => zz_na (a := h0) (i := 0) (j := 1) (by decide) q9.1)).trans t2
                  replace t3 : σ18 h0 0 = n15 := (zz_w (b := h0) (j := 0) w18 (fun q9 => zz_na (a := h0) (i := 0) (j := 1) (by decide) q9.1)).trans t3
                  refine lv_aload hx hb dX4_look_112 (lv_at hl 0 rfl) ?_
                  refine zz_geti hx hb hts hi0 hown hK hP ((g_h1.2.2.2.2.2.2.1 j7 r7)) rfl 3 (by decide) (hts (.fieldLink RX4 57 "NoonLaw$Dream" "bids" "I") (List.mem_cons_of_mem _ bm_343)) rfl rfl (hC (h1 + 6 + 1 * j7) 3 (by first | (dsimp only; omega) | omega | (dsimp only; done))) dX4_look_114 ?_
                  refine lv_iconst (v := 1) hx hb dX4_look_117 (by decide) ?_
                  refine lv_icmp_ne (tgt := 128) hx hb dX4_look_118 (by decide) (fun c19 => ?_) (fun c19 => ?_)
                  · have c19 := zz_neT c19
                    skip
                    refine lv_aload_n hx hb dX4_look_128 rfl (lv_at hl 2 rfl) ?_
                    refine zz_getr hx hb hts hi4 hown hK hP (g0.1) rfl 7 (by decide) (hts (.fieldLink RX4 18 "NoonLaw$Sight" "ban" "[I") (List.mem_cons_of_mem _ bm_84)) rfl rfl dX4_look_129 ?_
                    refine lv_astore (lv' := [(5, .ref (h0 + 3)), (4, .ref (h1 + 6 + 1 * j7)), (3, .int ii), (0, .ref h0), (1, .ref h1), (2, .int hour)]) hx hb dX4_look_132 hl (by decide) rfl (fun ls hl => ?_)
                    refine lv_aload hx hb dX4_look_134 (lv_at hl 0 rfl) ?_
                    refine lv_aload hx hb dX4_look_136 (lv_at hl 1 rfl) ?_
                    refine zz_geti hx hb hts hi0 hown hK hP ((g_h1.2.2.2.2.2.2.1 j7 r7)) rfl 2 (by decide) (hts (.fieldLink RX4 37 "NoonLaw$Dream" "matter" "I") (List.mem_cons_of_mem _ bm_341)) rfl rfl (hC (h1 + 6 + 1 * j7) 2 (by first | (dsimp only; omega) | omega | (dsimp only; done))) dX4_look_138 ?_
                    refine lv_aload hx hb dX4_look_141 (lv_at hl 0 rfl) ?_
                    refine lv_aload hx hb dX4_look_143 (lv_at hl 1 rfl) ?_
                    refine zz_geti hx hb hts hi0 hown hK hP ((g_h1.2.2.2.2.2.2.1 j7 r7)) rfl 2 (by decide) (hts (.fieldLink RX4 37 "NoonLaw$Dream" "matter" "I") (List.mem_cons_of_mem _ bm_341)) rfl rfl (hC (h1 + 6 + 1 * j7) 2 (by first | (dsimp only; omega) | omega | (dsimp only; done))) dX4_look_145 ?_
                    refine zz_iald hx hb hK hP (g0.2.2.2) (by omega) (by omega) dX4_look_148 (fun j20 q20 r20 => ?_)
                    refine lv_aload_n hx hb dX4_look_149 rfl (lv_at hl 3 rfl) ?_
                    refine zz_getr hx hb hts hi4 hown hK hP (g0.1) rfl 5 (by decide) (hts (.fieldLink RX4 9 "NoonLaw$Sight" "weights" "[I") (List.mem_cons_of_mem _ bm_82)) rfl rfl dX4_look_150 ?_
                    refine lv_iload_n hx hb dX4_look_153 rfl (lv_at hl 2 rfl) ?_
                    refine zz_iald hx hb hK hP (g0.2.1) (by omega) (by omega) dX4_look_154 (fun j21 q21 r21 => ?_)
                    skip
                    refine va_mmax hx hb (hml.trans hl.1.symm) hown (hts (.methodLink RX4 60 Lib.Math.max.name) (List.mem_cons_of_mem _ bm_344)) (hts (.static Lib.Math.max.name) (List.mem_cons_of_mem _ bm_230)) (hts (.initialized "java/lang/Math") (List.mem_cons_of_mem _ bm_227)) (hts (.code Lib.Math.max.name Lib.Math.max.code 2 (some .int)) (List.mem_cons_of_mem _ bm_231)) (Nat.le_of_ble_eq_true rfl) (Nat.le_of_ble_eq_true rfl) (Nat.zero_le _) (Nat.zero_le _) dX4_look_155 ?_
                    refine lv_topi (fun n22 e22 => ?_)
                    have f22 := zz_maxT e22
                    refine zz_iast hx hb hK hP hS (g0.2.2.2) (by omega) (by omega) dX4_look_158 (fun j23 σ23 H locs q23 r23 w23 hP1 hS1 => ?_)
                    replace hP := hP1
                    replace hS := hS1
                    clear hP1 hS1
                    replace hC := hC.u w23 (by first | (dsimp only; omega) | omega | (dsimp only; done))
                    replace t0 : σ23 h1 4 = σ h1 4 := (zz_w (b := h1) (j := 4) w23 (by omega)).trans t0
                    replace t1 : σ23 h1 1 = σ h1 1 := (zz_w (b := h1) (j := 1) w23 (by omega)).trans t1
                    replace t2 : σ23 h0 4 = n1 := (zz_w (b := h0) (j := 4) w23 (fun q9 => zz_na (a := h0) (i := 0) (j := 3) (by decide) q9.1)).trans t2
                    replace t3 : σ23 h0 0 = n15 := (zz_w (b := h0) (j := 0) w23 (fun q9 => zz_na (a := h0) (i := 0) (j := 3) (by decide) q9.1)).trans t3
                    obtain ⟨n24, e24⟩ : ∃ y : Int32, y = ii + 1 := ⟨_, rfl⟩
                    have f24 : n24.toInt = (ii).toInt + (1) := by have h9 := zz_addT e24 (by omega) (by omega); omega
                    refine lv_iinc (v := n24) (lv' := [(3, .int n24), (5, .ref (h0 + 3)), (4, .ref (h1 + 6 + 1 * j7)), (0, .ref h0), (1, .ref h1), (2, .int hour)]) hx hb dX4_look_159 hl (k := 2) rfl (by rw [e24]; rfl) (by decide) rfl (fun ls hl => ?_)
                    refine lv_goto (tgt := 47) hx hb dX4_look_162 (by decide) ?_
                    exact ih47 n24 n15 σ23 _ _ _ (by omega) hC (by omega) (by rw [show n24.toInt.toNat = j7 + 1 from by omega]; exact hlk.add (j5 := j20) (j6 := j21) (sd := 0) (f := 3) (g := 2) hF1 w16 e14 (by rw [hiv9]; exact e15) (by omega) (fun a k q1 q2 => w17 a k (by first | (dsimp only; omega) | omega)) w18 (by omega) hw9 w23 (by omega) (by omega) (by omega) (by omega) (by omega) (by omega) (by omega) rfl) t0 t1 t2 t3 hP hS (lv_sub hl [0, 3, 4, 5] rfl)
                  · have c19 := zz_eqT c19
                    skip
                    refine lv_aload_n hx hb dX4_look_121 rfl (lv_at hl 2 rfl) ?_
                    refine zz_getr hx hb hts hi4 hown hK hP (g0.1) rfl 6 (by decide) (hts (.fieldLink RX4 15 "NoonLaw$Sight" "bid" "[I") (List.mem_cons_of_mem _ bm_83)) rfl rfl dX4_look_122 ?_
                    refine lv_goto (tgt := 132) hx hb dX4_look_125 (by decide) ?_
                    refine lv_astore (lv' := [(5, .ref (h0 + 2)), (4, .ref (h1 + 6 + 1 * j7)), (3, .int ii), (0, .ref h0), (1, .ref h1), (2, .int hour)]) hx hb dX4_look_132 hl (by decide) rfl (fun ls hl => ?_)
                    refine lv_aload hx hb dX4_look_134 (lv_at hl 0 rfl) ?_
                    refine lv_aload hx hb dX4_look_136 (lv_at hl 1 rfl) ?_
                    refine zz_geti hx hb hts hi0 hown hK hP ((g_h1.2.2.2.2.2.2.1 j7 r7)) rfl 2 (by decide) (hts (.fieldLink RX4 37 "NoonLaw$Dream" "matter" "I") (List.mem_cons_of_mem _ bm_341)) rfl rfl (hC (h1 + 6 + 1 * j7) 2 (by first | (dsimp only; omega) | omega | (dsimp only; done))) dX4_look_138 ?_
                    refine lv_aload hx hb dX4_look_141 (lv_at hl 0 rfl) ?_
                    refine lv_aload hx hb dX4_look_143 (lv_at hl 1 rfl) ?_
                    refine zz_geti hx hb hts hi0 hown hK hP ((g_h1.2.2.2.2.2.2.1 j7 r7)) rfl 2 (by decide) (hts (.fieldLink RX4 37 "NoonLaw$Dream" "matter" "I") (List.mem_cons_of_mem _ bm_341)) rfl rfl (hC (h1 + 6 + 1 * j7) 2 (by first | (dsimp only; omega) | omega | (dsimp only; done))) dX4_look_145 ?_
                    refine zz_iald hx hb hK hP (g0.2.2.1) (by omega) (by omega) dX4_look_148 (fun j25 q25 r25 => ?_)
                    refine lv_aload_n hx hb dX4_look_149 rfl (lv_at hl 3 rfl) ?_
                    refine zz_getr hx hb hts hi4 hown hK hP (g0.1) rfl 5 (by decide) (hts (.fieldLink RX4 9 "NoonLaw$Sight" "weights" "[I") (List.mem_cons_of_mem _ bm_82)) rfl rfl dX4_look_150 ?_
                    refine lv_iload_n hx hb dX4_look_153 rfl (lv_at hl 2 rfl) ?_
                    refine zz_iald hx hb hK hP (g0.2.1) (by omega) (by omega) dX4_look_154 (fun j26 q26 r26 => ?_)
                    skip
                    refine va_mmax hx hb (hml.trans hl.1.symm) hown (hts (.methodLink RX4 60 Lib.Math.max.name) (List.mem_cons_of_mem _ bm_344)) (hts (.static Lib.Math.max.name) (List.mem_cons_of_mem _ bm_230)) (hts (.initialized "java/lang/Math") (List.mem_cons_of_mem _ bm_227)) (hts (.code Lib.Math.max.name Lib.Math.max.code 2 (some .int)) (List.mem_cons_of_mem _ bm_231)) (Nat.le_of_ble_eq_true rfl) (Nat.le_of_ble_eq_true rfl) (Nat.zero_le _) (Nat.zero_le _) dX4_look_155 ?_
                    refine lv_topi (fun n27 e27 => ?_)
                    have f27 := zz_maxT e27
                    refine zz_iast hx hb hK hP hS (g0.2.2.1) (by omega) (by omega) dX4_look_158 (fun j28 σ28 H locs q28 r28 w28 hP1 hS1 => ?_)
                    replace hP := hP1
                    replace hS := hS1
                    clear hP1 hS1
                    replace hC := hC.u w28 (by first | (dsimp only; omega) | omega | (dsimp only; done))
                    replace t0 : σ28 h1 4 = σ h1 4 := (zz_w (b := h1) (j := 4) w28 (by omega)).trans t0
                    replace t1 : σ28 h1 1 = σ h1 1 := (zz_w (b := h1) (j := 1) w28 (by omega)).trans t1
                    replace t2 : σ28 h0 4 = n1 := (zz_w (b := h0) (j := 4) w28 (fun q9 => zz_na (a := h0) (i := 0) (j := 2) (by decide) q9.1)).trans t2
                    replace t3 : σ28 h0 0 = n15 := (zz_w (b := h0) (j := 0) w28 (fun q9 => zz_na (a := h0) (i := 0) (j := 2) (by decide) q9.1)).trans t3
                    obtain ⟨n29, e29⟩ : ∃ y : Int32, y = ii + 1 := ⟨_, rfl⟩
                    have f29 : n29.toInt = (ii).toInt + (1) := by have h9 := zz_addT e29 (by omega) (by omega); omega
                    refine lv_iinc (v := n29) (lv' := [(3, .int n29), (5, .ref (h0 + 2)), (4, .ref (h1 + 6 + 1 * j7)), (0, .ref h0), (1, .ref h1), (2, .int hour)]) hx hb dX4_look_159 hl (k := 2) rfl (by rw [e29]; rfl) (by decide) rfl (fun ls hl => ?_)
                    refine lv_goto (tgt := 47) hx hb dX4_look_162 (by decide) ?_
                    exact ih47 n29 n15 σ28 _ _ _ (by omega) hC (by omega) (by rw [show n29.toInt.toNat = j7 + 1 from by omega]; exact hlk.add (j5 := j25) (j6 := j26) (sd := 1) (f := 2) (g := 3) hF1 w16 e14 (by rw [hiv9]; exact e15) (by omega) (fun a k q1 q2 => w17 a k (by first | (dsimp only; omega) | omega)) w18 (by omega) hw9 w28 (by omega) (by omega) (by omega) (by omega) (by omega) (by omega) (by omega) rfl) t0 t1 t2 t3 hP hS (lv_sub hl [0, 3, 4, 5] rfl)
        exact J47 _ 0 0 σa _ _ _ (Nat.lt_succ_self _) hC (by omega) (by exact zy_lk.zero (by omega) t3 (fun m hm => f15_1 m (by omega)) (by rw [t2]; omega)) t0 t1 t2 t3 hP hS (lv_sub hl [0, 1, 2, 3] rfl)
      · have c4 := zz_nleT c4
        refine lv_aload_n hx hb dX4_look_21 rfl (lv_at hl 1 rfl) ?_
        refine zz_getr hx hb hts hi4 hown hK hP (g0.1) rfl 6 (by decide) (hts (.fieldLink RX4 15 "NoonLaw$Sight" "bid" "[I") (List.mem_cons_of_mem _ bm_83)) rfl rfl dX4_look_22 ?_
        refine lv_iload_n hx hb dX4_look_25 rfl (lv_at hl 0 rfl) ?_
        refine lv_sipush (v := (-1000)) hx hb dX4_look_26 (by decide) ?_
        refine zz_iast hx hb hK hP hS (g0.2.2.1) (by omega) (by omega) dX4_look_29 (fun j30 σ30 H locs q30 r30 w30 hP1 hS1 => ?_)
        replace hP := hP1
        replace hS := hS1
        clear hP1 hS1
        replace hC := hC.u w30 (by first | (dsimp only; omega) | omega | (dsimp only; done))
        replace t0 : σ30 h1 4 = σ h1 4 := (zz_w (b := h1) (j := 4) w30 (by omega)).trans t0
        replace t1 : σ30 h1 1 = σ h1 1 := (zz_w (b := h1) (j := 1) w30 (by omega)).trans t1
        replace t2 : σ30 h0 4 = n1 := (zz_w (b := h0) (j := 4) w30 (fun q9 => zz_na (a := h0) (i := 0) (j := 2) (by decide) q9.1)).trans t2
        replace t3 : σ30 h0 0 = 0 := (zz_w (b := h0) (j := 0) w30 (fun q9 => zz_na (a := h0) (i := 0) (j := 2) (by decide) q9.1)).trans t3
        refine lv_aload_n hx hb dX4_look_30 rfl (lv_at hl 1 rfl) ?_
        refine zz_getr hx hb hts hi4 hown hK hP (g0.1) rfl 7 (by decide) (hts (.fieldLink RX4 18 "NoonLaw$Sight" "ban" "[I") (List.mem_cons_of_mem _ bm_84)) rfl rfl dX4_look_31 ?_
        refine lv_iload_n hx hb dX4_look_34 rfl (lv_at hl 0 rfl) ?_
        refine lv_sipush (v := (-1000)) hx hb dX4_look_35 (by decide) ?_
        refine zz_iast hx hb hK hP hS (g0.2.2.2) (by omega) (by omega) dX4_look_38 (fun j31 σ31 H locs q31 r31 w31 hP1 hS1 => ?_)
        replace hP := hP1
        replace hS := hS1
        clear hP1 hS1
        replace hC := hC.u w31 (by first | (dsimp only; omega) | omega | (dsimp only; done))
        replace t0 : σ31 h1 4 = σ h1 4 := (zz_w (b := h1) (j := 4) w31 (by omega)).trans t0
        replace t1 : σ31 h1 1 = σ h1 1 := (zz_w (b := h1) (j := 1) w31 (by omega)).trans t1
        replace t2 : σ31 h0 4 = n1 := (zz_w (b := h0) (j := 4) w31 (fun q9 => zz_na (a := h0) (i := 0) (j := 3) (by decide) q9.1)).trans t2
        replace t3 : σ31 h0 0 = 0 := (zz_w (b := h0) (j := 0) w31 (fun q9 => zz_na (a := h0) (i := 0) (j := 3) (by decide) q9.1)).trans t3
        obtain ⟨n32, e32⟩ : ∃ y : Int32, y = ii + 1 := ⟨_, rfl⟩
        have f32 : n32.toInt = (ii).toInt + (1) := by have h9 := zz_addT e32 (by omega) (by omega); omega
        refine lv_iinc (v := n32) (lv' := [(3, .int n32), (0, .ref h0), (1, .ref h1), (2, .int hour)]) hx hb dX4_look_39 hl (k := 0) rfl (by rw [e32]; rfl) (by decide) rfl (fun ls hl => ?_)
        refine lv_goto (tgt := 15) hx hb dX4_look_42 (by decide) ?_
        exact ih15 n32 σ31 _ _ _ (by omega) hC (by omega) (by intro m hm; exact if hq : (m : Int) = ii.toInt then ⟨by rw [show m = j30 from by omega, w31, zz_un (by omega), w30, zz_us]; exact k_m1000, by rw [show m = j31 from by omega, w31, zz_us]; exact k_m1000⟩ else ⟨by rw [w31, zz_un (by omega), w30, zz_un (by omega)]; exact (f15_1 m (by omega)).1, by rw [w31, zz_un (by omega), w30, zz_un (by omega)]; exact (f15_1 m (by omega)).2⟩) t0 t1 t2 t3 hP hS (lv_sub hl [0, 1, 2, 3] rfl)
  exact J15 _ 0 σ3 _ _ _ (Nat.lt_succ_self _) hC (by omega) (by intro m hm; omega) t0 t1 t2 t3 hP hS (lv_sub hl [0, 1, 2, 3] rfl)
