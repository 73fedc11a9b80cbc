theorem gX9_dreamIs_X9_isDream : GoodIn wzX9_dreamIs (wsV RX9 101 RX9 yX9_isDream wzX9_isDream) := wz_co bm_236 (wz_co bm_237 (wz_co bm_238 (wz_co bm_5 (wz_in bm_239))))
theorem gX9_dreamIs_X9_in : GoodIn wzX9_dreamIs (va_wsS RX9 47 yX9_in wzX9_in) := wz_co bm_143 (wz_co bm_144 (wz_co bm_5 (wz_in bm_145)))
theorem gX9_dreamIs_X9_error : GoodIn wzX9_dreamIs (wsV RX9 94 RX9 yX9_error wzX9_error) := wz_co bm_146 (wz_co bm_147 (wz_co bm_148 (wz_co bm_5 (wz_in bm_149))))
theorem gX9_dreamIs_X9_of : GoodIn wzX9_dreamIs (wsV RX9 51 RX9 yX9_of wzX9_of) := wz_co bm_240 (wz_co bm_241 (wz_co bm_242 (wz_co bm_5 (wz_in bm_243))))
theorem gX9_dreamIs_X9_weightOf : GoodIn wzX9_dreamIs (wsV RX9 66 RX9 yX9_weightOf wzX9_weightOf) := wz_co bm_244 (wz_co bm_245 (wz_co bm_246 (wz_co bm_5 (wz_in bm_247))))
theorem gX9_dreamIs_X9_isInForce : GoodIn wzX9_dreamIs (wsV RX9 62 RX9 yX9_isInForce wzX9_isInForce) := wz_co bm_266 (wz_co bm_267 (wz_co bm_268 (wz_co bm_5 (wz_in bm_269))))
theorem dS23_1 (x0 : Nat) : ∀ a k : Nat, (a = (x0) + 3) → ((a = x0 + 3 ∨ (x0 + 7 ≤ a ∧ a ≤ x0 + 11))) := by intro a k h; omega
theorem dS23_2 (x0 : Nat) : ¬ ((x0 + 1) = (x0) + 3) := by omega
theorem dS23_3 (x0 : Nat) : ∀ a k : Nat, (a = (x0) + 9 ∨ a = (x0) + 10) → ((a = x0 + 3 ∨ (x0 + 7 ≤ a ∧ a ≤ x0 + 11))) := by intro a k h; omega
theorem dS23_4 (x0 : Nat) : ¬ ((x0 + 1) = (x0) + 9 ∨ (x0 + 1) = (x0) + 10) := by omega
set_option maxHeartbeats 4000000 in
set_option maxRecDepth 100000 in
theorem c_X9_dreamIs (l : Launch) (E : zz_E) (σ : zz_S) (h0 : Nat) (dm : Int32) (what : Int32) (g0 : zz_M E h0) (hJ : zz_IM σ h0) (K : zy_W) (hW : zy_YW σ (h0 + 1) K) : Met l yX9_dreamIs wzX9_dreamIs ({ frames := 4, cells := 0, slots := 0, locals := 94 }) (va_Pc [.ref h0, .int dm, .int what] (zz_B E σ)) (va_Qi (fun r σ1 => zz_ch (fun a k => (a = h0 + 3 ∨ (h0 + 7 ≤ a ∧ a ≤ h0 + 11))) σ σ1 ∧ (zy_p3 K (σ (h0 + 1) 0).toInt dm.toInt what.toInt r)) (zz_B E) (zz_A E)) 0 0 (zz_A E) := by
  refine zz_met (cc := cX9_dreamIs) (maxL := 3) (ret := (some .int)) (by decide) rfl (Nat.le_of_ble_eq_true rfl) ?_
  intro p e s m args below meth c ls hx hb hr hts hown hlocks hml hK hP hS hl
  have hl : lv_has ls 3 [(0, .ref h0), (1, .int dm), (2, .int what)] := hl
  have hown : s.vm.findClass RX9 = some m.cls := hown
  have hi9 : ∀ w ∈ wsX90, w ∈ wzX9_dreamIs := fun w h => List.mem_cons_of_mem _ (hbw9 w h)
  have k_m1000000001 : ((-1000000001) : Int32).toInt = -1000000001 := by decide +kernel
  have k_0 : (0 : Int32).toInt = 0 := by decide +kernel
  have k_1 : (1 : Int32).toInt = 1 := by decide +kernel
  have k_6 : (6 : Int32).toInt = 6 := by decide +kernel
  have k_7 : (7 : Int32).toInt = 7 := by decide +kernel
  replace t0 : σ (h0 + 1) 2 = σ (h0 + 1) 2 := rfl
  replace t1 : σ (h0 + 1) 3 = σ (h0 + 1) 3 := rfl
  replace t2 : σ (h0 + 1) 0 = σ (h0 + 1) 0 := rfl
  have hC : zz_ch (fun a k => (a = h0 + 3 ∨ (h0 + 7 ≤ a ∧ a ≤ h0 + 11))) σ σ := zz_ch.rf σ
  have hI := hJ.1
  obtain ⟨hh, hsl, hd, hp, htc, hwc, hM, hT⟩ := id hI
  have hz5 := hJ.2.2.1
  have htr := hJ.2.2.2
  have hct := hW.2.1
  refine lv_aload_n hx hb dX9_dreamIs_0 rfl (lv_at hl 0 rfl) ?_
  refine lv_iload_n hx hb dX9_dreamIs_1 rfl (lv_at hl 1 rfl) ?_
  refine zz_callVp (As := [.int dm]) (rest := []) ⟨hx, hb, hml, hown, hts⟩ hK hP hS (c_X9_isDream l E σ h0 dm g0 (by exact hd)) (cwV 1 hts gX9_dreamIs_X9_isDream rfl rfl rfl (by decide +kernel) ⟨Nat.le_of_ble_eq_true rfl, Nat.le_of_ble_eq_true rfl⟩) (g0.1) rfl rfl hl.1 rfl (Nat.le_of_ble_eq_true rfl) dX9_dreamIs_2 ⟨Nat.zero_le _, Nat.zero_le _⟩ (fun r1 H locs f1 hP1 hS1 => ?_)
  replace hP := hP1
  replace hS := hS1
  clear hP1 hS1
  refine lv_if_eq (tgt := 18) hx hb dX9_dreamIs_5 (by decide) (fun c2 => ?_) (fun c2 => ?_)
  · have c2 := zz_eqT c2
    refine lv_aload_n hx hb dX9_dreamIs_18 rfl (lv_at hl 0 rfl) ?_
    refine lv_ldc (v := (-1000000001)) hx hb hown (hts (.constant RX9 93 (-1000000001)) (List.mem_cons_of_mem _ bm_138)) dX9_dreamIs_19 ?_
    refine zz_callVi (As := [.int (-1000000001)]) (rest := []) ⟨hx, hb, hml, hown, hts⟩ hK hP hS (c_X9_error l E σ h0 (-1000000001) g0 (by omega)) (cwV 1 hts gX9_dreamIs_X9_error rfl rfl rfl (by decide +kernel) ⟨Nat.le_of_ble_eq_true rfl, Nat.le_of_ble_eq_true rfl⟩) (g0.1) rfl rfl hl.1 rfl (Nat.le_of_ble_eq_true rfl) dX9_dreamIs_21 ⟨Nat.zero_le _, Nat.zero_le _⟩ (fun r3 σ3 H locs q3 hP1 hS1 => ?_)
    replace hP := hP1
    replace hS := hS1
    clear hP1 hS1
    try dsimp only at q3
    obtain ⟨w3, f3⟩ := q3
    replace hC := hC.tr (w3.mono (dS23_1 h0))
    replace t0 : σ3 (h0 + 1) 2 = σ (h0 + 1) 2 := (w3 (h0 + 1) 2 (dS23_2 h0)).trans t0
    replace t1 : σ3 (h0 + 1) 3 = σ (h0 + 1) 3 := (w3 (h0 + 1) 3 (dS23_2 h0)).trans t1
    replace t2 : σ3 (h0 + 1) 0 = σ (h0 + 1) 0 := (w3 (h0 + 1) 0 (dS23_2 h0)).trans t2
    exact zz_iret hx hb hr hlocks hK hP hS dX9_dreamIs_24 (by exact ⟨hC, Or.inl ⟨by omega, by omega⟩⟩)
  · have c2 := zz_neT c2
    refine lv_iload_n hx hb dX9_dreamIs_8 rfl (lv_at hl 2 rfl) ?_
    refine lv_iconst (v := 0) hx hb dX9_dreamIs_9 (by decide) ?_
    refine lv_bipush (v := 7) hx hb dX9_dreamIs_10 (by decide) ?_
    refine zz_callSp (As := [.int what, .int 0, .int 7]) (rest := []) ⟨hx, hb, hml, hown, hts⟩ hK hP hS (c_X9_in l E σ what 0 7) (va_cwS 3 hts gX9_dreamIs_X9_in rfl rfl rfl (by decide +kernel) ⟨Nat.le_of_ble_eq_true rfl, Nat.le_of_ble_eq_true rfl⟩) rfl hl.1 rfl (Nat.le_of_ble_eq_true rfl) dX9_dreamIs_12 ⟨Nat.zero_le _, Nat.zero_le _⟩ (fun r4 H locs f4 hP1 hS1 => ?_)
    replace hP := hP1
    replace hS := hS1
    clear hP1 hS1
    refine lv_if_ne (tgt := 25) hx hb dX9_dreamIs_15 (by decide) (fun c5 => ?_) (fun c5 => ?_)
    · have c5 := zz_neT c5
      refine lv_iload_n hx hb dX9_dreamIs_25 rfl (lv_at hl 2 rfl) ?_
      refine lv_bipush (v := 6) hx hb dX9_dreamIs_26 (by decide) ?_
      refine lv_icmp_ge (tgt := 40) hx hb dX9_dreamIs_28 (by decide) (fun c6 => ?_) (fun c6 => ?_)
      · have c6 := zz_leT c6
        refine lv_iload_n hx hb dX9_dreamIs_40 rfl (lv_at hl 2 rfl) ?_
        refine lv_bipush (v := 7) hx hb dX9_dreamIs_41 (by decide) ?_
        refine lv_icmp_ne (tgt := 60) hx hb dX9_dreamIs_43 (by decide) (fun c7 => ?_) (fun c7 => ?_)
        · have c7 := zz_neT c7
          refine lv_aload_n hx hb dX9_dreamIs_60 rfl (lv_at hl 0 rfl) ?_
          refine lv_iload_n hx hb dX9_dreamIs_61 rfl (lv_at hl 1 rfl) ?_
          refine lv_aload_n hx hb dX9_dreamIs_62 rfl (lv_at hl 0 rfl) ?_
          refine zz_getr hx hb hts hi9 hown hK hP (g0.1) rfl 0 (by decide) (hts (.fieldLink RX9 9 "NoonLawModel" "row" "[I") (List.mem_cons_of_mem _ bm_93)) rfl rfl dX9_dreamIs_63 ?_
          refine lv_iconst (v := 0) hx hb dX9_dreamIs_66 (by decide) ?_
          refine zz_ialc hx hb hK hP (g0.2.1) 0 (by decide) (by decide) t2 dX9_dreamIs_67 ?_
          refine zz_callVp (As := [.int dm, .int (σ (h0 + 1) 0)]) (rest := []) ⟨hx, hb, hml, hown, hts⟩ hK hP hS (c_X9_isInForce l E σ h0 dm (σ (h0 + 1) 0) g0 (by omega) (by first | omega | exact hI | exact hT) K (by exact hW)) (cwV 2 hts gX9_dreamIs_X9_isInForce rfl rfl rfl (by decide +kernel) ⟨Nat.le_of_ble_eq_true rfl, Nat.le_of_ble_eq_true rfl⟩) (g0.1) rfl rfl hl.1 rfl (Nat.le_of_ble_eq_true rfl) dX9_dreamIs_68 ⟨Nat.zero_le _, Nat.zero_le _⟩ (fun r9 H locs f9 hP1 hS1 => ?_)
          replace hP := hP1
          replace hS := hS1
          clear hP1 hS1
          have hF9 := f9
          refine lv_if_eq (tgt := 78) hx hb dX9_dreamIs_71 (by decide) (fun c10 => ?_) (fun c10 => ?_)
          · have c10 := zz_eqT c10
            refine lv_iconst (v := 0) hx hb dX9_dreamIs_78 (by decide) ?_
            exact zz_iret hx hb hr hlocks hK hP hS dX9_dreamIs_79 (by exact ⟨hC, Or.inr (Or.inr (Or.inl ⟨by omega, Or.inr ⟨k_0, hF9.n (by omega)⟩⟩))⟩)
          · have c10 := zz_neT c10
            refine lv_iconst (v := 1) hx hb dX9_dreamIs_74 (by decide) ?_
            refine lv_goto (tgt := 79) hx hb dX9_dreamIs_75 (by decide) ?_
            exact zz_iret hx hb hr hlocks hK hP hS dX9_dreamIs_79 (by exact ⟨hC, Or.inr (Or.inr (Or.inl ⟨by omega, Or.inl ⟨k_1, hF9.y (by omega)⟩⟩))⟩)
        · have c7 := zz_eqT c7
          refine lv_aload_n hx hb dX9_dreamIs_46 rfl (lv_at hl 0 rfl) ?_
          refine lv_iload_n hx hb dX9_dreamIs_47 rfl (lv_at hl 1 rfl) ?_
          refine lv_aload_n hx hb dX9_dreamIs_48 rfl (lv_at hl 0 rfl) ?_
          refine zz_getr hx hb hts hi9 hown hK hP (g0.1) rfl 0 (by decide) (hts (.fieldLink RX9 9 "NoonLawModel" "row" "[I") (List.mem_cons_of_mem _ bm_93)) rfl rfl dX9_dreamIs_49 ?_
          refine lv_iconst (v := 0) hx hb dX9_dreamIs_52 (by decide) ?_
          refine zz_ialc hx hb hK hP (g0.2.1) 0 (by decide) (by decide) t2 dX9_dreamIs_53 ?_
          refine zz_callVi (As := [.int dm, .int (σ (h0 + 1) 0)]) (rest := []) ⟨hx, hb, hml, hown, hts⟩ hK hP hS (c_X9_weightOf l E σ h0 dm (σ (h0 + 1) 0) g0 (by omega) (by first | omega | exact hI | exact hT) (by exact hI) K (by exact hW)) (cwV 2 hts gX9_dreamIs_X9_weightOf rfl rfl rfl (by decide +kernel) ⟨Nat.le_of_ble_eq_true rfl, Nat.le_of_ble_eq_true rfl⟩) (g0.1) rfl rfl hl.1 rfl (Nat.le_of_ble_eq_true rfl) dX9_dreamIs_54 ⟨Nat.zero_le _, Nat.zero_le _⟩ (fun r12 σ12 H locs q12 hP1 hS1 => ?_)
          replace hP := hP1
          replace hS := hS1
          clear hP1 hS1
          try dsimp only at q12
          obtain ⟨w12, f12⟩ := q12
          replace hC := hC.tr (w12.mono (dS23_3 h0))
          replace t0 : σ12 (h0 + 1) 2 = σ (h0 + 1) 2 := (w12 (h0 + 1) 2 (dS23_4 h0)).trans t0
          replace t1 : σ12 (h0 + 1) 3 = σ (h0 + 1) 3 := (w12 (h0 + 1) 3 (dS23_4 h0)).trans t1
          replace t2 : σ12 (h0 + 1) 0 = σ (h0 + 1) 0 := (w12 (h0 + 1) 0 (dS23_4 h0)).trans t2
          refine lv_goto (tgt := 79) hx hb dX9_dreamIs_57 (by decide) ?_
          exact zz_iret hx hb hr hlocks hK hP hS dX9_dreamIs_79 (by exact ⟨hC, Or.inr (Or.inr (Or.inr ⟨by omega, f12⟩))⟩)
      · have c6 := zz_nleT c6
        refine lv_aload_n hx hb dX9_dreamIs_31 rfl (lv_at hl 0 rfl) ?_
        refine lv_iload_n hx hb dX9_dreamIs_32 rfl (lv_at hl 1 rfl) ?_
        refine lv_iload_n hx hb dX9_dreamIs_33 rfl (lv_at hl 2 rfl) ?_
        refine zz_callVp (As := [.int dm, .int what]) (rest := []) ⟨hx, hb, hml, hown, hts⟩ hK hP hS (c_X9_of l E σ h0 dm what g0 (by omega)) (cwV 2 hts gX9_dreamIs_X9_of rfl rfl rfl (by decide +kernel) ⟨Nat.le_of_ble_eq_true rfl, Nat.le_of_ble_eq_true rfl⟩) (g0.1) rfl rfl hl.1 rfl (Nat.le_of_ble_eq_true rfl) dX9_dreamIs_34 ⟨Nat.zero_le _, Nat.zero_le _⟩ (fun r13 H locs f13 hP1 hS1 => ?_)
        replace hP := hP1
        replace hS := hS1
        clear hP1 hS1
        refine lv_goto (tgt := 79) hx hb dX9_dreamIs_37 (by decide) ?_
        exact zz_iret hx hb hr hlocks hK hP hS dX9_dreamIs_79 (by exact ⟨hC, Or.inr (Or.inl ⟨by omega, by rw [f13]; exact (congrArg (fun q => (σ (h0 + 1) q).toInt) (by omega)).trans (hW.at (j := dm.toInt.toNat) (f := what.toInt.toNat) (by omega) (by omega))⟩)⟩)
    · have c5 := zz_eqT c5
      refine lv_aload_n hx hb dX9_dreamIs_18 rfl (lv_at hl 0 rfl) ?_
      refine lv_ldc (v := (-1000000001)) hx hb hown (hts (.constant RX9 93 (-1000000001)) (List.mem_cons_of_mem _ bm_138)) dX9_dreamIs_19 ?_
      refine zz_callVi (As := [.int (-1000000001)]) (rest := []) ⟨hx, hb, hml, hown, hts⟩ hK hP hS (c_X9_error l E σ h0 (-1000000001) g0 (by omega)) (cwV 1 hts gX9_dreamIs_X9_error rfl rfl rfl (by decide +kernel) ⟨Nat.le_of_ble_eq_true rfl, Nat.le_of_ble_eq_true rfl⟩) (g0.1) rfl rfl hl.1 rfl (Nat.le_of_ble_eq_true rfl) dX9_dreamIs_21 ⟨Nat.zero_le _, Nat.zero_le _⟩ (fun r14 σ14 H locs q14 hP1 hS1 => ?_)
      replace hP := hP1
      replace hS := hS1
      clear hP1 hS1
      try dsimp only at q14
      obtain ⟨w14, f14⟩ := q14
      replace hC := hC.tr (w14.mono (dS23_1 h0))
      replace t0 : σ14 (h0 + 1) 2 = σ (h0 + 1) 2 := (w14 (h0 + 1) 2 (dS23_2 h0)).trans t0
      replace t1 : σ14 (h0 + 1) 3 = σ (h0 + 1) 3 := (w14 (h0 + 1) 3 (dS23_2 h0)).trans t1
      replace t2 : σ14 (h0 + 1) 0 = σ (h0 + 1) 0 := (w14 (h0 + 1) 0 (dS23_2 h0)).trans t2
      exact zz_iret hx hb hr hlocks hK hP hS dX9_dreamIs_24 (by exact ⟨hC, Or.inl ⟨by omega, by omega⟩⟩)
theorem gX9_as_X9_isDream : GoodIn wzX9_as (wsV RX9 101 RX9 yX9_isDream wzX9_isDream) := wz_co bm_236 (wz_co bm_237 (wz_co bm_238 (wz_co bm_5 (wz_in bm_239))))
theorem gX9_as_X9_in : GoodIn wzX9_as (va_wsS RX9 47 yX9_in wzX9_in) := wz_co bm_143 (wz_co bm_144 (wz_co bm_5 (wz_in bm_145)))
theorem gX9_as_X9_error : GoodIn wzX9_as (wsV RX9 94 RX9 yX9_error wzX9_error) := wz_co bm_146 (wz_co bm_147 (wz_co bm_148 (wz_co bm_5 (wz_in bm_149))))
theorem gX9_as_X9_of : GoodIn wzX9_as (wsV RX9 51 RX9 yX9_of wzX9_of) := wz_co bm_240 (wz_co bm_241 (wz_co bm_242 (wz_co bm_5 (wz_in bm_243))))
set_option maxHeartbeats 4000000 in
set_option maxRecDepth 100000 in
theorem c_X9_as (l : Launch) (E : zz_E) (σ : zz_S) (h0 : Nat) (dm : Int32) (kd : Int32) (g0 : zz_M E h0) (hJ : zz_IM σ h0) : Met l yX9_as wzX9_as ({ frames := 2, cells := 0, slots := 0, locals := 43 }) (va_Pc [.ref h0, .int dm, .int kd] (zz_B E σ)) (va_Qi (fun r σ1 => zz_ch (fun a k => (a = h0 + 3 ∨ (h0 + 7 ≤ a ∧ a ≤ h0 + 11))) σ σ1 ∧ ((¬ (0 ≤ dm.toInt ∧ dm.toInt < (σ (h0 + 1) 2).toInt ∧ 0 ≤ kd.toInt ∧ kd.toInt ≤ 6) ∧ r.toInt = -1000000001) ∨ ((0 ≤ dm.toInt ∧ dm.toInt < (σ (h0 + 1) 2).toInt ∧ 0 ≤ kd.toInt ∧ kd.toInt ≤ 6) ∧ zz_ir (zz_DM σ (h0 + 1) dm.toInt.toNat 0) kd.toInt ∧ r.toInt = zz_DM σ (h0 + 1) dm.toInt.toNat 1) ∨ ((0 ≤ dm.toInt ∧ dm.toInt < (σ (h0 + 1) 2).toInt ∧ 0 ≤ kd.toInt ∧ kd.toInt ≤ 6) ∧ ¬ zz_ir (zz_DM σ (h0 + 1) dm.toInt.toNat 0) kd.toInt ∧ r.toInt = -1000000005))) (zz_B E) (zz_A E)) 0 0 (zz_A E) := by
  refine zz_met (cc := cX9_as) (maxL := 5) (ret := (some .int)) (by decide) rfl (Nat.le_of_ble_eq_true rfl) ?_
  intro p e s m args below meth c ls hx hb hr hts hown hlocks hml hK hP hS hl
  have hl : lv_has ls 5 [(0, .ref h0), (1, .int dm), (2, .int kd)] := hl
  have hown : s.vm.findClass RX9 = some m.cls := hown
  have k_m1000000005 : ((-1000000005) : Int32).toInt = -1000000005 := by decide +kernel
  have k_m1000000001 : ((-1000000001) : Int32).toInt = -1000000001 := by decide +kernel
  have k_0 : (0 : Int32).toInt = 0 := by decide +kernel
  have k_1 : (1 : Int32).toInt = 1 := by decide +kernel
  have k_2 : (2 : Int32).toInt = 2 := by decide +kernel
  have k_4 : (4 : Int32).toInt = 4 := by decide +kernel
  have k_5 : (5 : Int32).toInt = 5 := by decide +kernel
  have k_6 : (6 : Int32).toInt = 6 := by decide +kernel
  replace t0 : σ (h0 + 1) 2 = σ (h0 + 1) 2 := rfl
  replace t1 : σ (h0 + 1) 3 = σ (h0 + 1) 3 := rfl
  replace t2 : σ (h0 + 1) 0 = σ (h0 + 1) 0 := rfl
  have hC : zz_ch (fun a k => (a = h0 + 3 ∨ (h0 + 7 ≤ a ∧ a ≤ h0 + 11))) σ σ := zz_ch.rf σ
  have hI := hJ.1
  obtain ⟨hh, hsl, hd, hp, htc, hwc, hM, hT⟩ := id hI
  have hz5 := hJ.2.2.1
  have htr := hJ.2.2.2
  refine lv_aload_n hx hb dX9_as_0 rfl (lv_at hl 0 rfl) ?_
  refine lv_iload_n hx hb dX9_as_1 rfl (lv_at hl 1 rfl) ?_
  refine zz_callVp (As := [.int dm]) (rest := []) ⟨hx, hb, hml, hown, hts⟩ hK hP hS (c_X9_isDream l E σ h0 dm g0 (by exact hd)) (cwV 1 hts gX9_as_X9_isDream rfl rfl rfl (by decide +kernel) ⟨Nat.le_of_ble_eq_true rfl, Nat.le_of_ble_eq_true rfl⟩) (g0.1) rfl rfl hl.1 rfl (Nat.le_of_ble_eq_true rfl) dX9_as_2 ⟨Nat.zero_le _, Nat.zero_le _⟩ (fun r1 H locs f1 hP1 hS1 => ?_)
  replace hP := hP1
  replace hS := hS1
  clear hP1 hS1
  refine lv_if_eq (tgt := 18) hx hb dX9_as_5 (by decide) (fun c2 => ?_) (fun c2 => ?_)
  · have c2 := zz_eqT c2
    refine lv_aload_n hx hb dX9_as_18 rfl (lv_at hl 0 rfl) ?_
    refine lv_ldc (v := (-1000000001)) hx hb hown (hts (.constant RX9 93 (-1000000001)) (List.mem_cons_of_mem _ bm_138)) dX9_as_19 ?_
    refine zz_callVi (As := [.int (-1000000001)]) (rest := []) ⟨hx, hb, hml, hown, hts⟩ hK hP hS (c_X9_error l E σ h0 (-1000000001) g0 (by omega)) (cwV 1 hts gX9_as_X9_error rfl rfl rfl (by decide +kernel) ⟨Nat.le_of_ble_eq_true rfl, Nat.le_of_ble_eq_true rfl⟩) (g0.1) rfl rfl hl.1 rfl (Nat.le_of_ble_eq_true rfl) dX9_as_21 ⟨Nat.zero_le _, Nat.zero_le _⟩ (fun r3 σ3 H locs q3 hP1 hS1 => ?_)
    replace hP := hP1
    replace hS := hS1
    clear hP1 hS1
    try dsimp only at q3
    obtain ⟨w3, f3⟩ := q3
    replace hC := hC.tr (w3.mono (dS23_1 h0))
    replace t0 : σ3 (h0 + 1) 2 = σ (h0 + 1) 2 := (w3 (h0 + 1) 2 (dS23_2 h0)).trans t0
    replace t1 : σ3 (h0 + 1) 3 = σ (h0 + 1) 3 := (w3 (h0 + 1) 3 (dS23_2 h0)).trans t1
    replace t2 : σ3 (h0 + 1) 0 = σ (h0 + 1) 0 := (w3 (h0 + 1) 0 (dS23_2 h0)).trans t2
    exact zz_iret hx hb hr hlocks hK hP hS dX9_as_24 (by exact ⟨hC, Or.inl ⟨by omega, by omega⟩⟩)
  · have c2 := zz_neT c2
    refine lv_iload_n hx hb dX9_as_8 rfl (lv_at hl 2 rfl) ?_
    refine lv_iconst (v := 0) hx hb dX9_as_9 (by decide) ?_
    refine lv_bipush (v := 6) hx hb dX9_as_10 (by decide) ?_
    refine zz_callSp (As := [.int kd, .int 0, .int 6]) (rest := []) ⟨hx, hb, hml, hown, hts⟩ hK hP hS (c_X9_in l E σ kd 0 6) (va_cwS 3 hts gX9_as_X9_in rfl rfl rfl (by decide +kernel) ⟨Nat.le_of_ble_eq_true rfl, Nat.le_of_ble_eq_true rfl⟩) rfl hl.1 rfl (Nat.le_of_ble_eq_true rfl) dX9_as_12 ⟨Nat.zero_le _, Nat.zero_le _⟩ (fun r4 H locs f4 hP1 hS1 => ?_)
    replace hP := hP1
    replace hS := hS1
    clear hP1 hS1
    refine lv_if_ne (tgt := 25) hx hb dX9_as_15 (by decide) (fun c5 => ?_) (fun c5 => ?_)
    · have c5 := zz_neT c5
      refine lv_aload_n hx hb dX9_as_25 rfl (lv_at hl 0 rfl) ?_
      refine lv_iload_n hx hb dX9_as_26 rfl (lv_at hl 1 rfl) ?_
      refine lv_iconst (v := 0) hx hb dX9_as_27 (by decide) ?_
      refine zz_callVp (As := [.int dm, .int 0]) (rest := []) ⟨hx, hb, hml, hown, hts⟩ hK hP hS (c_X9_of l E σ h0 dm 0 g0 (by omega)) (cwV 2 hts gX9_as_X9_of rfl rfl rfl (by decide +kernel) ⟨Nat.le_of_ble_eq_true rfl, Nat.le_of_ble_eq_true rfl⟩) (g0.1) rfl rfl hl.1 rfl (Nat.le_of_ble_eq_true rfl) dX9_as_28 ⟨Nat.zero_le _, Nat.zero_le _⟩ (fun r6 H locs f6 hP1 hS1 => ?_)
      replace hP := hP1
      replace hS := hS1
      clear hP1 hS1
      have hk9 := hM dm.toInt.toNat (by omega)
      have hd0 : (r6).toInt = zz_DM σ (h0 + 1) dm.toInt.toNat 0 := by rw [zz_DM.at (by omega) (by decide)]; rw [f6]; exact congrArg (fun q => (σ (h0 + 1) q).toInt) (by omega)
      refine lv_istore_n (lv' := [(3, .int r6), (0, .ref h0), (1, .int dm), (2, .int kd)]) hx hb dX9_as_31 rfl hl (by decide) rfl (fun ls hl => ?_)
      have J68 : ∀ (ok : Int32) (H : Heap) (locs : List Loc) (ls : Array Slot),  ((ok.toInt = 1 ∧ zz_ir (r6).toInt kd.toInt) ∨ (ok.toInt = 0 ∧ ¬ zz_ir (r6).toInt kd.toInt)) → zz_P E σ H → va_S (zz_A E) s.heap H locs → lv_has ls 5 [(3, .int r6), (0, .ref h0), (1, .int dm), (2, .int kd), (4, .int ok)] → W p l e (headSpec wzX9_as ({ frames := 2, cells := 0, slots := 0, locals := 43 })).room s m args below meth c H locs 0 0 (MQ below (va_Qi (fun r σ1 => zz_ch (fun a k => (a = h0 + 3 ∨ (h0 + 7 ≤ a ∧ a ≤ h0 + 11))) σ σ1 ∧ ((¬ (0 ≤ dm.toInt ∧ dm.toInt < (σ (h0 + 1) 2).toInt ∧ 0 ≤ kd.toInt ∧ kd.toInt ≤ 6) ∧ r.toInt = -1000000001) ∨ ((0 ≤ dm.toInt ∧ dm.toInt < (σ (h0 + 1) 2).toInt ∧ 0 ≤ kd.toInt ∧ kd.toInt ≤ 6) ∧ zz_ir (zz_DM σ (h0 + 1) dm.toInt.toNat 0) kd.toInt ∧ r.toInt = zz_DM σ (h0 + 1) dm.toInt.toNat 1) ∨ ((0 ≤ dm.toInt ∧ dm.toInt < (σ (h0 + 1) 2).toInt ∧ 0 ≤ kd.toInt ∧ kd.toInt ≤ 6) ∧ ¬ zz_ir (zz_DM σ (h0 + 1) dm.toInt.toNat 0) kd.toInt ∧ r.toInt = -1000000005))) (zz_B E) (zz_A E)) args s 0 0 (zz_A E)) (F0 m 68 ls []) := by
        intro ok H locs ls f68_0 hP hS hl
        refine lv_iload hx hb dX9_as_68 (lv_at hl 4 rfl) ?_
        refine lv_if_eq (tgt := 82) hx hb dX9_as_70 (by decide) (fun c7 => ?_) (fun c7 => ?_)
        · have c7 := zz_eqT c7
          refine lv_aload_n hx hb dX9_as_82 rfl (lv_at hl 1 rfl) ?_
          refine lv_ldc (v := (-1000000005)) hx hb hown (hts (.constant RX9 107 (-1000000005)) (List.mem_cons_of_mem _ bm_297)) dX9_as_83 ?_
          refine zz_callVi (As := [.int (-1000000005)]) (rest := []) ⟨hx, hb, hml, hown, hts⟩ hK hP hS (c_X9_error l E σ h0 (-1000000005) g0 (by omega)) (cwV 1 hts gX9_as_X9_error rfl rfl rfl (by decide +kernel) ⟨Nat.le_of_ble_eq_true rfl, Nat.le_of_ble_eq_true rfl⟩) (g0.1) rfl rfl hl.1 rfl (Nat.le_of_ble_eq_true rfl) dX9_as_85 ⟨Nat.zero_le _, Nat.zero_le _⟩ (fun r8 σ8 H locs q8 hP1 hS1 => ?_)
          replace hP := hP1
          replace hS := hS1
          clear hP1 hS1
          try dsimp only at q8
          obtain ⟨w8, f8⟩ := q8
          replace hC := hC.tr (w8.mono (dS23_1 h0))
          replace t0 : σ8 (h0 + 1) 2 = σ (h0 + 1) 2 := (w8 (h0 + 1) 2 (dS23_2 h0)).trans t0
          replace t1 : σ8 (h0 + 1) 3 = σ (h0 + 1) 3 := (w8 (h0 + 1) 3 (dS23_2 h0)).trans t1
          replace t2 : σ8 (h0 + 1) 0 = σ (h0 + 1) 0 := (w8 (h0 + 1) 0 (dS23_2 h0)).trans t2
          exact zz_iret hx hb hr hlocks hK hP hS dX9_as_88 (by exact ⟨hC, Or.inr (Or.inr ⟨by omega, by rw [← hd0]; exact (f68_0.resolve_left (fun q => by omega)).2, by omega⟩)⟩)
        · have c7 := zz_neT c7
          refine lv_aload_n hx hb dX9_as_73 rfl (lv_at hl 1 rfl) ?_
          refine lv_iload_n hx hb dX9_as_74 rfl (lv_at hl 2 rfl) ?_
          refine lv_iconst (v := 1) hx hb dX9_as_75 (by decide) ?_
          refine zz_callVp (As := [.int dm, .int 1]) (rest := []) ⟨hx, hb, hml, hown, hts⟩ hK hP hS (c_X9_of l E σ h0 dm 1 g0 (by omega)) (cwV 2 hts gX9_as_X9_of rfl rfl rfl (by decide +kernel) ⟨Nat.le_of_ble_eq_true rfl, Nat.le_of_ble_eq_true rfl⟩) (g0.1) rfl rfl hl.1 rfl (Nat.le_of_ble_eq_true rfl) dX9_as_76 ⟨Nat.zero_le _, Nat.zero_le _⟩ (fun r9 H locs f9 hP1 hS1 => ?_)
          replace hP := hP1
          replace hS := hS1
          clear hP1 hS1
          refine lv_goto (tgt := 88) hx hb dX9_as_79 (by decide) ?_
          have hd1 : (r9).toInt = zz_DM σ (h0 + 1) dm.toInt.toNat 1 := by rw [zz_DM.at (by omega) (by decide)]; rw [f9]; exact congrArg (fun q => (σ (h0 + 1) q).toInt) (by omega)
          exact zz_iret hx hb hr hlocks hK hP hS dX9_as_88 (by exact ⟨hC, Or.inr (Or.inl ⟨by omega, by rw [← hd0]; exact (f68_0.resolve_right (fun q => by omega)).2, hd1⟩)⟩)
      refine lv_iload_n hx hb dX9_as_32 rfl (lv_at hl 3 rfl) ?_
      refine lv_if_eq (tgt := 61) hx hb dX9_as_33 (by decide) (fun c10 => ?_) (fun c10 => ?_)
      · have c10 := zz_eqT c10
        refine lv_iconst (v := 1) hx hb dX9_as_61 (by decide) ?_
        refine lv_goto (tgt := 66) hx hb dX9_as_62 (by decide) ?_
        refine lv_istore (lv' := [(4, .int 1), (3, .int r6), (0, .ref h0), (1, .int dm), (2, .int kd)]) hx hb dX9_as_66 hl (by decide) rfl (fun ls hl => ?_)
        exact J68 1 _ _ _ (by unfold zz_ir; omega) hP hS (lv_sub hl [1, 2, 3, 4, 0] rfl)
      · have c10 := zz_neT c10
        refine lv_iload_n hx hb dX9_as_36 rfl (lv_at hl 3 rfl) ?_
        refine lv_iload_n hx hb dX9_as_37 rfl (lv_at hl 0 rfl) ?_
        refine lv_icmp_eq (tgt := 61) hx hb dX9_as_38 (by decide) (fun c11 => ?_) (fun c11 => ?_)
        · have c11 := zz_eqT c11
          refine lv_iconst (v := 1) hx hb dX9_as_61 (by decide) ?_
          refine lv_goto (tgt := 66) hx hb dX9_as_62 (by decide) ?_
          refine lv_istore (lv' := [(4, .int 1), (3, .int r6), (0, .ref h0), (1, .int dm), (2, .int kd)]) hx hb dX9_as_66 hl (by decide) rfl (fun ls hl => ?_)
          exact J68 1 _ _ _ (by unfold zz_ir; omega) hP hS (lv_sub hl [1, 2, 3, 4, 0] rfl)
        · have c11 := zz_neT c11
          refine lv_iload_n hx hb dX9_as_41 rfl (lv_at hl 3 rfl) ?_
          refine lv_iconst (v := 1) hx hb dX9_as_42 (by decide) ?_
          refine lv_icmp_ne (tgt := 51) hx hb dX9_as_43 (by decide) (fun c12 => ?_) (fun c12 => ?_)
          · have c12 := zz_neT c12
            refine lv_iload_n hx hb dX9_as_51 rfl (lv_at hl 3 rfl) ?_
            refine lv_iconst (v := 2) hx hb dX9_as_52 (by decide) ?_
            refine lv_icmp_ne (tgt := 65) hx hb dX9_as_53 (by decide) (fun c13 => ?_) (fun c13 => ?_)
            · have c13 := zz_neT c13
              refine lv_iconst (v := 0) hx hb dX9_as_65 (by decide) ?_
              refine lv_istore (lv' := [(4, .int 0), (3, .int r6), (0, .ref h0), (1, .int dm), (2, .int kd)]) hx hb dX9_as_66 hl (by decide) rfl (fun ls hl => ?_)
              exact J68 0 _ _ _ (by unfold zz_ir; omega) hP hS (lv_sub hl [1, 2, 3, 4, 0] rfl)
            · have c13 := zz_eqT c13
              refine lv_iload_n hx hb dX9_as_56 rfl (lv_at hl 0 rfl) ?_
              refine lv_iconst (v := 5) hx hb dX9_as_57 (by decide) ?_
              refine lv_icmp_ne (tgt := 65) hx hb dX9_as_58 (by decide) (fun c14 => ?_) (fun c14 => ?_)
              · have c14 := zz_neT c14
                refine lv_iconst (v := 0) hx hb dX9_as_65 (by decide) ?_
                refine lv_istore (lv' := [(4, .int 0), (3, .int r6), (0, .ref h0), (1, .int dm), (2, .int kd)]) hx hb dX9_as_66 hl (by decide) rfl (fun ls hl => ?_)
                exact J68 0 _ _ _ (by unfold zz_ir; omega) hP hS (lv_sub hl [1, 2, 3, 4, 0] rfl)
              · have c14 := zz_eqT c14
                refine lv_iconst (v := 1) hx hb dX9_as_61 (by decide) ?_
                refine lv_goto (tgt := 66) hx hb dX9_as_62 (by decide) ?_
                refine lv_istore (lv' := [(4, .int 1), (3, .int r6), (0, .ref h0), (1, .int dm), (2, .int kd)]) hx hb dX9_as_66 hl (by decide) rfl (fun ls hl => ?_)
                exact J68 1 _ _ _ (by unfold zz_ir; omega) hP hS (lv_sub hl [1, 2, 3, 4, 0] rfl)
          · have c12 := zz_eqT c12
            refine lv_iload_n hx hb dX9_as_46 rfl (lv_at hl 0 rfl) ?_
            refine lv_iconst (v := 4) hx hb dX9_as_47 (by decide) ?_
            refine lv_icmp_eq (tgt := 61) hx hb dX9_as_48 (by decide) (fun c15 => ?_) (fun c15 => ?_)
            · have c15 := zz_eqT c15
              refine lv_iconst (v := 1) hx hb dX9_as_61 (by decide) ?_
              refine lv_goto (tgt := 66) hx hb dX9_as_62 (by decide) ?_
              refine lv_istore (lv' := [(4, .int 1), (3, .int r6), (0, .ref h0), (1, .int dm), (2, .int kd)]) hx hb dX9_as_66 hl (by decide) rfl (fun ls hl => ?_)
              exact J68 1 _ _ _ (by unfold zz_ir; omega) hP hS (lv_sub hl [1, 2, 3, 4, 0] rfl)
            · have c15 := zz_neT c15
              refine lv_iload_n hx hb dX9_as_51 rfl (lv_at hl 3 rfl) ?_
              refine lv_iconst (v := 2) hx hb dX9_as_52 (by decide) ?_
              refine lv_icmp_ne (tgt := 65) hx hb dX9_as_53 (by decide) (fun c16 => ?_) (fun c16 => ?_)
              · have c16 := zz_neT c16
                refine lv_iconst (v := 0) hx hb dX9_as_65 (by decide) ?_
                refine lv_istore (lv' := [(4, .int 0), (3, .int r6), (0, .ref h0), (1, .int dm), (2, .int kd)]) hx hb dX9_as_66 hl (by decide) rfl (fun ls hl => ?_)
                exact J68 0 _ _ _ (by unfold zz_ir; omega) hP hS (lv_sub hl [1, 2, 3, 4, 0] rfl)
              · have c16 := zz_eqT c16
                refine lv_iload_n hx hb dX9_as_56 rfl (lv_at hl 0 rfl) ?_
                refine lv_iconst (v := 5) hx hb dX9_as_57 (by decide) ?_
                refine lv_icmp_ne (tgt := 65) hx hb dX9_as_58 (by decide) (fun c17 => ?_) (fun c17 => ?_)
                · have c17 := zz_neT c17
                  refine lv_iconst (v := 0) hx hb dX9_as_65 (by decide) ?_
                  refine lv_istore (lv' := [(4, .int 0), (3, .int r6), (0, .ref h0), (1, .int dm), (2, .int kd)]) hx hb dX9_as_66 hl (by decide) rfl (fun ls hl => ?_)
                  exact J68 0 _ _ _ (by unfold zz_ir; omega) hP hS (lv_sub hl [1, 2, 3, 4, 0] rfl)
                · have c17 := zz_eqT c17
                  refine lv_iconst (v := 1) hx hb dX9_as_61 (by decide) ?_
                  refine lv_goto (tgt := 66) hx hb dX9_as_62 (by decide) ?_
                  refine lv_istore (lv' := [(4, .int 1), (3, .int r6), (0, .ref h0), (1, .int dm), (2, .int kd)]) hx hb dX9_as_66 hl (by decide) rfl (fun ls hl => ?_)
                  exact J68 1 _ _ _ (by unfold zz_ir; omega) hP hS (lv_sub hl [1, 2, 3, 4, 0] rfl)
    · have c5 := zz_eqT c5
      refine lv_aload_n hx hb dX9_as_18 rfl (lv_at hl 0 rfl) ?_
      refine lv_ldc (v := (-1000000001)) hx hb hown (hts (.constant RX9 93 (-1000000001)) (List.mem_cons_of_mem _ bm_138)) dX9_as_19 ?_
      refine zz_callVi (As := [.int (-1000000001)]) (rest := []) ⟨hx, hb, hml, hown, hts⟩ hK hP hS (c_X9_error l E σ h0 (-1000000001) g0 (by omega)) (cwV 1 hts gX9_as_X9_error rfl rfl rfl (by decide +kernel) ⟨Nat.le_of_ble_eq_true rfl, Nat.le_of_ble_eq_true rfl⟩) (g0.1) rfl rfl hl.1 rfl (Nat.le_of_ble_eq_true rfl) dX9_as_21 ⟨Nat.zero_le _, Nat.zero_le _⟩ (fun r18 σ18 H locs q18 hP1 hS1 => ?_)
      replace hP := hP1
      replace hS := hS1
      clear hP1 hS1
      try dsimp only at q18
      obtain ⟨w18, f18⟩ := q18
      replace hC := hC.tr (w18.mono (dS23_1 h0))
      replace t0 : σ18 (h0 + 1) 2 = σ (h0 + 1) 2 := (w18 (h0 + 1) 2 (dS23_2 h0)).trans t0
      replace t1 : σ18 (h0 + 1) 3 = σ (h0 + 1) 3 := (w18 (h0 + 1) 3 (dS23_2 h0)).trans t1
      replace t2 : σ18 (h0 + 1) 0 = σ (h0 + 1) 0 := (w18 (h0 + 1) 0 (dS23_2 h0)).trans t2
      exact zz_iret hx hb hr hlocks hK hP hS dX9_as_24 (by exact ⟨hC, Or.inl ⟨by omega, by omega⟩⟩)
theorem gX9_personIs_X9_isPerson : GoodIn wzX9_personIs (wsV RX9 108 RX9 yX9_isPerson wzX9_isPerson) := wz_co bm_377 (wz_co bm_378 (wz_co bm_379 (wz_co bm_5 (wz_in bm_380))))
theorem gX9_personIs_X9_in : GoodIn wzX9_personIs (va_wsS RX9 47 yX9_in wzX9_in) := wz_co bm_143 (wz_co bm_144 (wz_co bm_5 (wz_in bm_145)))
theorem gX9_personIs_X9_error : GoodIn wzX9_personIs (wsV RX9 94 RX9 yX9_error wzX9_error) := wz_co bm_146 (wz_co bm_147 (wz_co bm_148 (wz_co bm_5 (wz_in bm_149))))
theorem gX9_personIs_X9_about : GoodIn wzX9_personIs (wsV RX9 76 RX9 yX9_about wzX9_about) := wz_co bm_381 (wz_co bm_382 (wz_co bm_383 (wz_co bm_5 (wz_in bm_384))))
theorem gX9_personIs_X9_guiltOf : GoodIn wzX9_personIs (wsV RX9 86 RX9 yX9_guiltOf wzX9_guiltOf) := wz_co bm_385 (wz_co bm_386 (wz_co bm_387 (wz_co bm_5 (wz_in bm_388))))
theorem gX9_personIs_X9_fineOf : GoodIn wzX9_personIs (wsV RX9 111 RX9 yX9_fineOf wzX9_fineOf) := wz_co bm_404 (wz_co bm_405 (wz_co bm_406 (wz_co bm_5 (wz_in bm_407))))
set_option maxHeartbeats 4000000 in
set_option maxRecDepth 100000 in
theorem c_X9_personIs (l : Launch) (E : zz_E) (σ : zz_S) (h0 : Nat) (ps : Int32) (what : Int32) (g0 : zz_M E h0) (hJ : zz_IM σ h0) (K : zy_W) (hW : zy_YW σ (h0 + 1) K) : Met l yX9_personIs wzX9_personIs ({ frames := 9, cells := 0, slots := 0, locals := 213 }) (va_Pc [.ref h0, .int ps, .int what] (zz_B E σ)) (va_Qi (fun r σ1 => zz_ch (fun a k => (a = h0 + 3 ∨ (h0 + 7 ≤ a ∧ a ≤ h0 + 11))) σ σ1 ∧ (zy_p8 K (σ (h0 + 1) 3).toInt (zz_PM 0 σ (h0 + 1)) (zz_PM 1 σ (h0 + 1)) (σ (h0 + 1) 0).toInt ps what r)) (zz_B E) (zz_A E)) 0 0 (zz_A E) := by
  refine zz_met (cc := cX9_personIs) (maxL := 3) (ret := (some .int)) (by decide) rfl (Nat.le_of_ble_eq_true rfl) ?_
  intro p e s m args below meth c ls hx hb hr hts hown hlocks hml hK hP hS hl
  have hl : lv_has ls 3 [(0, .ref h0), (1, .int ps), (2, .int what)] := hl
  have hown : s.vm.findClass RX9 = some m.cls := hown
  have hi9 : ∀ w ∈ wsX90, w ∈ wzX9_personIs := fun w h => List.mem_cons_of_mem _ (hbw9 w h)
  have k_m1000000001 : ((-1000000001) : Int32).toInt = -1000000001 := by decide +kernel
  have k_0 : (0 : Int32).toInt = 0 := by decide +kernel
  have k_2 : (2 : Int32).toInt = 2 := by decide +kernel
  have k_3 : (3 : Int32).toInt = 3 := by decide +kernel
  replace t0 : σ (h0 + 1) 2 = σ (h0 + 1) 2 := rfl
  replace t1 : σ (h0 + 1) 3 = σ (h0 + 1) 3 := rfl
  replace t2 : σ (h0 + 1) 0 = σ (h0 + 1) 0 := rfl
  have hC : zz_ch (fun a k => (a = h0 + 3 ∨ (h0 + 7 ≤ a ∧ a ≤ h0 + 11))) σ σ := zz_ch.rf σ
  have hI := hJ.1
  obtain ⟨hh, hsl, hd, hp, htc, hwc, hM, hT⟩ := id hI
  have hz5 := hJ.2.2.1
  have htr := hJ.2.2.2
  have hct := hW.2.1
  refine lv_aload_n hx hb dX9_personIs_0 rfl (lv_at hl 0 rfl) ?_
  refine lv_iload_n hx hb dX9_personIs_1 rfl (lv_at hl 1 rfl) ?_
  refine zz_callVp (As := [.int ps]) (rest := []) ⟨hx, hb, hml, hown, hts⟩ hK hP hS (c_X9_isPerson l E σ h0 ps g0 (by exact hp)) (cwV 1 hts gX9_personIs_X9_isPerson rfl rfl rfl (by decide +kernel) ⟨Nat.le_of_ble_eq_true rfl, Nat.le_of_ble_eq_true rfl⟩) (g0.1) rfl rfl hl.1 rfl (Nat.le_of_ble_eq_true rfl) dX9_personIs_2 ⟨Nat.zero_le _, Nat.zero_le _⟩ (fun r1 H locs f1 hP1 hS1 => ?_)
  replace hP := hP1
  replace hS := hS1
  clear hP1 hS1
  refine lv_if_eq (tgt := 17) hx hb dX9_personIs_5 (by decide) (fun c2 => ?_) (fun c2 => ?_)
  · have c2 := zz_eqT c2
    refine lv_aload_n hx hb dX9_personIs_17 rfl (lv_at hl 0 rfl) ?_
    refine lv_ldc (v := (-1000000001)) hx hb hown (hts (.constant RX9 93 (-1000000001)) (List.mem_cons_of_mem _ bm_138)) dX9_personIs_18 ?_
    refine zz_callVi (As := [.int (-1000000001)]) (rest := []) ⟨hx, hb, hml, hown, hts⟩ hK hP hS (c_X9_error l E σ h0 (-1000000001) g0 (by omega)) (cwV 1 hts gX9_personIs_X9_error rfl rfl rfl (by decide +kernel) ⟨Nat.le_of_ble_eq_true rfl, Nat.le_of_ble_eq_true rfl⟩) (g0.1) rfl rfl hl.1 rfl (Nat.le_of_ble_eq_true rfl) dX9_personIs_20 ⟨Nat.zero_le _, Nat.zero_le _⟩ (fun r3 σ3 H locs q3 hP1 hS1 => ?_)
    replace hP := hP1
    replace hS := hS1
    clear hP1 hS1
    try dsimp only at q3
    obtain ⟨w3, f3⟩ := q3
    replace hC := hC.tr (w3.mono (dS23_1 h0))
    replace t0 : σ3 (h0 + 1) 2 = σ (h0 + 1) 2 := (w3 (h0 + 1) 2 (dS23_2 h0)).trans t0
    replace t1 : σ3 (h0 + 1) 3 = σ (h0 + 1) 3 := (w3 (h0 + 1) 3 (dS23_2 h0)).trans t1
    replace t2 : σ3 (h0 + 1) 0 = σ (h0 + 1) 0 := (w3 (h0 + 1) 0 (dS23_2 h0)).trans t2
    exact zz_iret hx hb hr hlocks hK hP hS dX9_personIs_23 (by exact ⟨hC, Or.inl ⟨by omega, by omega⟩⟩)
  · have c2 := zz_neT c2
    refine lv_iload_n hx hb dX9_personIs_8 rfl (lv_at hl 2 rfl) ?_
    refine lv_iconst (v := 0) hx hb dX9_personIs_9 (by decide) ?_
    refine lv_iconst (v := 3) hx hb dX9_personIs_10 (by decide) ?_
    refine zz_callSp (As := [.int what, .int 0, .int 3]) (rest := []) ⟨hx, hb, hml, hown, hts⟩ hK hP hS (c_X9_in l E σ what 0 3) (va_cwS 3 hts gX9_personIs_X9_in rfl rfl rfl (by decide +kernel) ⟨Nat.le_of_ble_eq_true rfl, Nat.le_of_ble_eq_true rfl⟩) rfl hl.1 rfl (Nat.le_of_ble_eq_true rfl) dX9_personIs_11 ⟨Nat.zero_le _, Nat.zero_le _⟩ (fun r4 H locs f4 hP1 hS1 => ?_)
    replace hP := hP1
    replace hS := hS1
    clear hP1 hS1
    refine lv_if_ne (tgt := 24) hx hb dX9_personIs_14 (by decide) (fun c5 => ?_) (fun c5 => ?_)
    · have c5 := zz_neT c5
      refine lv_iload_n hx hb dX9_personIs_24 rfl (lv_at hl 2 rfl) ?_
      refine lv_iconst (v := 2) hx hb dX9_personIs_25 (by decide) ?_
      refine lv_icmp_ge (tgt := 38) hx hb dX9_personIs_26 (by decide) (fun c6 => ?_) (fun c6 => ?_)
      · have c6 := zz_leT c6
        refine lv_iload_n hx hb dX9_personIs_38 rfl (lv_at hl 2 rfl) ?_
        refine lv_iconst (v := 2) hx hb dX9_personIs_39 (by decide) ?_
        refine lv_icmp_ne (tgt := 57) hx hb dX9_personIs_40 (by decide) (fun c7 => ?_) (fun c7 => ?_)
        · have c7 := zz_neT c7
          refine lv_aload_n hx hb dX9_personIs_57 rfl (lv_at hl 0 rfl) ?_
          refine lv_iload_n hx hb dX9_personIs_58 rfl (lv_at hl 1 rfl) ?_
          refine lv_aload_n hx hb dX9_personIs_59 rfl (lv_at hl 0 rfl) ?_
          refine zz_getr hx hb hts hi9 hown hK hP (g0.1) rfl 0 (by decide) (hts (.fieldLink RX9 9 "NoonLawModel" "row" "[I") (List.mem_cons_of_mem _ bm_93)) rfl rfl dX9_personIs_60 ?_
          refine lv_iconst (v := 0) hx hb dX9_personIs_63 (by decide) ?_
          refine zz_ialc hx hb hK hP (g0.2.1) 0 (by decide) (by decide) t2 dX9_personIs_64 ?_
          refine zz_callVi (As := [.int ps, .int (σ (h0 + 1) 0)]) (rest := []) ⟨hx, hb, hml, hown, hts⟩ hK hP hS (c_X9_fineOf l E σ h0 ps (σ (h0 + 1) 0) g0 (by omega) (by first | omega | exact hI | exact hT) (by exact hI) K (by exact hW)) (cwV 2 hts gX9_personIs_X9_fineOf rfl rfl rfl (by decide +kernel) ⟨Nat.le_of_ble_eq_true rfl, Nat.le_of_ble_eq_true rfl⟩) (g0.1) rfl rfl hl.1 rfl (Nat.le_of_ble_eq_true rfl) dX9_personIs_65 ⟨Nat.zero_le _, Nat.zero_le _⟩ (fun r9 σ9 H locs q9 hP1 hS1 => ?_)
          replace hP := hP1
          replace hS := hS1
          clear hP1 hS1
          try dsimp only at q9
          obtain ⟨w9, f9⟩ := q9
          replace hC := hC.tr (w9.mono (dS23_3 h0))
          replace t0 : σ9 (h0 + 1) 2 = σ (h0 + 1) 2 := (w9 (h0 + 1) 2 (dS23_4 h0)).trans t0
          replace t1 : σ9 (h0 + 1) 3 = σ (h0 + 1) 3 := (w9 (h0 + 1) 3 (dS23_4 h0)).trans t1
          replace t2 : σ9 (h0 + 1) 0 = σ (h0 + 1) 0 := (w9 (h0 + 1) 0 (dS23_4 h0)).trans t2
          have hwo : σ (h0 + 1) (61 + 2 * ps.toInt.toNat) = Int32.ofInt (zz_PM 0 σ (h0 + 1) ps.toInt.toNat) := zz_ofI (by rw [zz_PM.at (by omega)]; rfl)
          exact zz_iret hx hb hr hlocks hK hP hS dX9_personIs_68 (by exact ⟨hC, Or.inr (Or.inr (Or.inr (Or.inr (⟨by omega, by rw [f9, hwo]⟩))))⟩)
        · have c7 := zz_eqT c7
          refine lv_aload_n hx hb dX9_personIs_43 rfl (lv_at hl 0 rfl) ?_
          refine lv_iload_n hx hb dX9_personIs_44 rfl (lv_at hl 1 rfl) ?_
          refine lv_aload_n hx hb dX9_personIs_45 rfl (lv_at hl 0 rfl) ?_
          refine zz_getr hx hb hts hi9 hown hK hP (g0.1) rfl 0 (by decide) (hts (.fieldLink RX9 9 "NoonLawModel" "row" "[I") (List.mem_cons_of_mem _ bm_93)) rfl rfl dX9_personIs_46 ?_
          refine lv_iconst (v := 0) hx hb dX9_personIs_49 (by decide) ?_
          refine zz_ialc hx hb hK hP (g0.2.1) 0 (by decide) (by decide) t2 dX9_personIs_50 ?_
          refine zz_callVi (As := [.int ps, .int (σ (h0 + 1) 0)]) (rest := []) ⟨hx, hb, hml, hown, hts⟩ hK hP hS (c_X9_guiltOf l E σ h0 ps (σ (h0 + 1) 0) g0 (by omega) (by first | omega | exact hI | exact hT) (by exact hI) K (by exact hW)) (cwV 2 hts gX9_personIs_X9_guiltOf rfl rfl rfl (by decide +kernel) ⟨Nat.le_of_ble_eq_true rfl, Nat.le_of_ble_eq_true rfl⟩) (g0.1) rfl rfl hl.1 rfl (Nat.le_of_ble_eq_true rfl) dX9_personIs_51 ⟨Nat.zero_le _, Nat.zero_le _⟩ (fun r11 σ11 H locs q11 hP1 hS1 => ?_)
          replace hP := hP1
          replace hS := hS1
          clear hP1 hS1
          try dsimp only at q11
          obtain ⟨w11, f11⟩ := q11
          replace hC := hC.tr (w11.mono (dS23_3 h0))
          replace t0 : σ11 (h0 + 1) 2 = σ (h0 + 1) 2 := (w11 (h0 + 1) 2 (dS23_4 h0)).trans t0
          replace t1 : σ11 (h0 + 1) 3 = σ (h0 + 1) 3 := (w11 (h0 + 1) 3 (dS23_4 h0)).trans t1
          replace t2 : σ11 (h0 + 1) 0 = σ (h0 + 1) 0 := (w11 (h0 + 1) 0 (dS23_4 h0)).trans t2
          refine lv_goto (tgt := 68) hx hb dX9_personIs_54 (by decide) ?_
          have hwo : σ (h0 + 1) (61 + 2 * ps.toInt.toNat) = Int32.ofInt (zz_PM 0 σ (h0 + 1) ps.toInt.toNat) := zz_ofI (by rw [zz_PM.at (by omega)]; rfl)
          exact zz_iret hx hb hr hlocks hK hP hS dX9_personIs_68 (by exact ⟨hC, Or.inr (Or.inr (Or.inr (Or.inl ⟨by omega, by rw [f11, hwo]⟩)))⟩)
      · have c6 := zz_nleT c6
        refine lv_aload_n hx hb dX9_personIs_29 rfl (lv_at hl 0 rfl) ?_
        refine lv_iload_n hx hb dX9_personIs_30 rfl (lv_at hl 1 rfl) ?_
        refine lv_iload_n hx hb dX9_personIs_31 rfl (lv_at hl 2 rfl) ?_
        refine zz_callVp (As := [.int ps, .int what]) (rest := []) ⟨hx, hb, hml, hown, hts⟩ hK hP hS (c_X9_about l E σ h0 ps what g0 (by omega)) (cwV 2 hts gX9_personIs_X9_about rfl rfl rfl (by decide +kernel) ⟨Nat.le_of_ble_eq_true rfl, Nat.le_of_ble_eq_true rfl⟩) (g0.1) rfl rfl hl.1 rfl (Nat.le_of_ble_eq_true rfl) dX9_personIs_32 ⟨Nat.zero_le _, Nat.zero_le _⟩ (fun r12 H locs f12 hP1 hS1 => ?_)
        replace hP := hP1
        replace hS := hS1
        clear hP1 hS1
        refine lv_goto (tgt := 68) hx hb dX9_personIs_35 (by decide) ?_
        by_cases q9 : what.toInt = 0
        · exact zz_iret hx hb hr hlocks hK hP hS dX9_personIs_68 (by exact ⟨hC, Or.inr (Or.inl ⟨by omega, by rw [f12, zz_PM.at (by omega)]; exact congrArg (fun q => (σ (h0 + 1) q).toInt) (by omega)⟩)⟩)
        · exact zz_iret hx hb hr hlocks hK hP hS dX9_personIs_68 (by exact ⟨hC, Or.inr (Or.inr (Or.inl ⟨by omega, by rw [f12, zz_PM.at (by omega)]; exact congrArg (fun q => (σ (h0 + 1) q).toInt) (by omega)⟩))⟩)
    · have c5 := zz_eqT c5
      refine lv_aload_n hx hb dX9_personIs_17 rfl (lv_at hl 0 rfl) ?_
      refine lv_ldc (v := (-1000000001)) hx hb hown (hts (.constant RX9 93 (-1000000001)) (List.mem_cons_of_mem _ bm_138)) dX9_personIs_18 ?_
      refine zz_callVi (As := [.int (-1000000001)]) (rest := []) ⟨hx, hb, hml, hown, hts⟩ hK hP hS (c_X9_error l E σ h0 (-1000000001) g0 (by omega)) (cwV 1 hts gX9_personIs_X9_error rfl rfl rfl (by decide +kernel) ⟨Nat.le_of_ble_eq_true rfl, Nat.le_of_ble_eq_true rfl⟩) (g0.1) rfl rfl hl.1 rfl (Nat.le_of_ble_eq_true rfl) dX9_personIs_20 ⟨Nat.zero_le _, Nat.zero_le _⟩ (fun r13 σ13 H locs q13 hP1 hS1 => ?_)
      replace hP := hP1
      replace hS := hS1
      clear hP1 hS1
      try dsimp only at q13
      obtain ⟨w13, f13⟩ := q13
      replace hC := hC.tr (w13.mono (dS23_1 h0))
      replace t0 : σ13 (h0 + 1) 2 = σ (h0 + 1) 2 := (w13 (h0 + 1) 2 (dS23_2 h0)).trans t0
      replace t1 : σ13 (h0 + 1) 3 = σ (h0 + 1) 3 := (w13 (h0 + 1) 3 (dS23_2 h0)).trans t1
      replace t2 : σ13 (h0 + 1) 0 = σ (h0 + 1) 0 := (w13 (h0 + 1) 0 (dS23_2 h0)).trans t2
      exact zz_iret hx hb hr hlocks hK hP hS dX9_personIs_23 (by exact ⟨hC, Or.inl ⟨by omega, by omega⟩⟩)
theorem gX9_law_X9_in : GoodIn wzX9_law (va_wsS RX9 47 yX9_in wzX9_in) := wz_co bm_143 (wz_co bm_144 (wz_co bm_5 (wz_in bm_145)))
theorem gX9_law_X9_gives : GoodIn wzX9_law (wsV RX9 58 RX9 yX9_gives wzX9_gives) := wz_co bm_252 (wz_co bm_253 (wz_co bm_254 (wz_co bm_5 (wz_in bm_255))))
theorem gX9_law_X9_error : GoodIn wzX9_law (wsV RX9 94 RX9 yX9_error wzX9_error) := wz_co bm_146 (wz_co bm_147 (wz_co bm_148 (wz_co bm_5 (wz_in bm_149))))
set_option maxHeartbeats 4000000 in
set_option maxRecDepth 100000 in
theorem c_X9_law (l : Launch) (E : zz_E) (σ : zz_S) (h0 : Nat) (use : Int32) (x1 : Int32) (x2 : Int32) (x3 : Int32) (g0 : zz_M E h0) (hJ : zz_IM σ h0) (K : zy_W) (hW : zy_YW σ (h0 + 1) K) : Met l yX9_law wzX9_law ({ frames := 3, cells := 0, slots := 0, locals := 72 }) (va_Pc [.ref h0, .int use, .int x1, .int x2, .int x3] (zz_B E σ)) (va_Qi (fun r σ1 => zz_ch (fun a k => (a = h0 + 3 ∨ (h0 + 7 ≤ a ∧ a ≤ h0 + 11))) σ σ1 ∧ (True)) (zz_B E) (zz_A E)) 0 0 (zz_A E) := by
  refine zz_met (cc := cX9_law) (maxL := 5) (ret := (some .int)) (by decide) rfl (Nat.le_of_ble_eq_true rfl) ?_
  intro p e s m args below meth c ls hx hb hr hts hown hlocks hml hK hP hS hl
  have hl : lv_has ls 5 [(0, .ref h0), (1, .int use), (2, .int x1), (3, .int x2), (4, .int x3)] := hl
  have hown : s.vm.findClass RX9 = some m.cls := hown
  have k_m1000000001 : ((-1000000001) : Int32).toInt = -1000000001 := by decide +kernel
  have k_0 : (0 : Int32).toInt = 0 := by decide +kernel
  have k_1 : (1 : Int32).toInt = 1 := by decide +kernel
  replace t0 : σ (h0 + 1) 2 = σ (h0 + 1) 2 := rfl
  replace t1 : σ (h0 + 1) 3 = σ (h0 + 1) 3 := rfl
  replace t2 : σ (h0 + 1) 0 = σ (h0 + 1) 0 := rfl
  have hC : zz_ch (fun a k => (a = h0 + 3 ∨ (h0 + 7 ≤ a ∧ a ≤ h0 + 11))) σ σ := zz_ch.rf σ
  have hI := hJ.1
  obtain ⟨hh, hsl, hd, hp, htc, hwc, hM, hT⟩ := id hI
  have hz5 := hJ.2.2.1
  have htr := hJ.2.2.2
  have hct := hW.2.1
  refine lv_iload_n hx hb dX9_law_0 rfl (lv_at hl 1 rfl) ?_
  refine lv_iconst (v := 0) hx hb dX9_law_1 (by decide) ?_
  refine lv_iconst (v := 1) hx hb dX9_law_2 (by decide) ?_
  refine zz_callSp (As := [.int use, .int 0, .int 1]) (rest := []) ⟨hx, hb, hml, hown, hts⟩ hK hP hS (c_X9_in l E σ use 0 1) (va_cwS 3 hts gX9_law_X9_in rfl rfl rfl (by decide +kernel) ⟨Nat.le_of_ble_eq_true rfl, Nat.le_of_ble_eq_true rfl⟩) rfl hl.1 rfl (Nat.le_of_ble_eq_true rfl) dX9_law_3 ⟨Nat.zero_le _, Nat.zero_le _⟩ (fun r1 H locs f1 hP1 hS1 => ?_)
  replace hP := hP1
  replace hS := hS1
  clear hP1 hS1
  refine lv_if_eq (tgt := 21) hx hb dX9_law_6 (by decide) (fun c2 => ?_) (fun c2 => ?_)
  · have c2 := zz_eqT c2
    refine lv_aload_n hx hb dX9_law_21 rfl (lv_at hl 0 rfl) ?_
    refine lv_ldc (v := (-1000000001)) hx hb hown (hts (.constant RX9 93 (-1000000001)) (List.mem_cons_of_mem _ bm_138)) dX9_law_22 ?_
    refine zz_callVi (As := [.int (-1000000001)]) (rest := []) ⟨hx, hb, hml, hown, hts⟩ hK hP hS (c_X9_error l E σ h0 (-1000000001) g0 (by omega)) (cwV 1 hts gX9_law_X9_error rfl rfl rfl (by decide +kernel) ⟨Nat.le_of_ble_eq_true rfl, Nat.le_of_ble_eq_true rfl⟩) (g0.1) rfl rfl hl.1 rfl (Nat.le_of_ble_eq_true rfl) dX9_law_24 ⟨Nat.zero_le _, Nat.zero_le _⟩ (fun r3 σ3 H locs q3 hP1 hS1 => ?_)
    replace hP := hP1
    replace hS := hS1
    clear hP1 hS1
    try dsimp only at q3
    obtain ⟨w3, f3⟩ := q3
    replace hC := hC.tr (w3.mono (dS23_1 h0))
    replace t0 : σ3 (h0 + 1) 2 = σ (h0 + 1) 2 := (w3 (h0 + 1) 2 (dS23_2 h0)).trans t0
    replace t1 : σ3 (h0 + 1) 3 = σ (h0 + 1) 3 := (w3 (h0 + 1) 3 (dS23_2 h0)).trans t1
    replace t2 : σ3 (h0 + 1) 0 = σ (h0 + 1) 0 := (w3 (h0 + 1) 0 (dS23_2 h0)).trans t2
    exact zz_iret hx hb hr hlocks hK hP hS dX9_law_27 (by exact ⟨hC, trivial⟩)
  · have c2 := zz_neT c2
    refine lv_aload_n hx hb dX9_law_9 rfl (lv_at hl 0 rfl) ?_
    refine lv_iload_n hx hb dX9_law_10 rfl (lv_at hl 1 rfl) ?_
    refine lv_iload_n hx hb dX9_law_11 rfl (lv_at hl 2 rfl) ?_
    refine lv_iload_n hx hb dX9_law_12 rfl (lv_at hl 3 rfl) ?_
    refine lv_iload hx hb dX9_law_13 (lv_at hl 4 rfl) ?_
    refine zz_callVi (As := [.int use, .int x1, .int x2, .int x3]) (rest := []) ⟨hx, hb, hml, hown, hts⟩ hK hP hS (c_X9_gives l E σ h0 use x1 x2 x3 g0 (by first | omega | exact hI | exact hT) (by exact hI) K (by exact hW)) (cwV 4 hts gX9_law_X9_gives rfl rfl rfl (by decide +kernel) ⟨Nat.le_of_ble_eq_true rfl, Nat.le_of_ble_eq_true rfl⟩) (g0.1) rfl rfl hl.1 rfl (Nat.le_of_ble_eq_true rfl) dX9_law_15 ⟨Nat.zero_le _, Nat.zero_le _⟩ (fun r4 σ4 H locs q4 hP1 hS1 => ?_)
    replace hP := hP1
    replace hS := hS1
    clear hP1 hS1
    try dsimp only at q4
    obtain ⟨w4, f4⟩ := q4
    replace hC := hC.tr (w4.mono (dS23_3 h0))
    replace t0 : σ4 (h0 + 1) 2 = σ (h0 + 1) 2 := (w4 (h0 + 1) 2 (dS23_4 h0)).trans t0
    replace t1 : σ4 (h0 + 1) 3 = σ (h0 + 1) 3 := (w4 (h0 + 1) 3 (dS23_4 h0)).trans t1
    replace t2 : σ4 (h0 + 1) 0 = σ (h0 + 1) 0 := (w4 (h0 + 1) 0 (dS23_4 h0)).trans t2
    refine lv_goto (tgt := 27) hx hb dX9_law_18 (by decide) ?_
    exact zz_iret hx hb hr hlocks hK hP hS dX9_law_27 (by exact ⟨hC, trivial⟩)
theorem gX9_rule_X9_isMatter : GoodIn wzX9_rule (va_wsS RX9 189 yX9_isMatter wzX9_isMatter) := wz_co bm_646 (wz_co bm_647 (wz_co bm_5 (wz_in bm_648)))
theorem gX9_rule_X9_in : GoodIn wzX9_rule (va_wsS RX9 47 yX9_in wzX9_in) := wz_co bm_143 (wz_co bm_144 (wz_co bm_5 (wz_in bm_145)))
theorem gX9_rule_X9_underAt : GoodIn wzX9_rule (wsV RX9 73 RX9 yX9_underAt wzX9_underAt) := wz_co bm_393 (wz_co bm_394 (wz_co bm_395 (wz_co bm_5 (wz_in bm_396))))
theorem gX9_rule_X9_error : GoodIn wzX9_rule (wsV RX9 94 RX9 yX9_error wzX9_error) := wz_co bm_146 (wz_co bm_147 (wz_co bm_148 (wz_co bm_5 (wz_in bm_149))))
set_option maxHeartbeats 4000000 in
set_option maxRecDepth 100000 in
theorem c_X9_rule (l : Launch) (E : zz_E) (σ : zz_S) (h0 : Nat) (mt : Int32) (nn : Int32) (g0 : zz_M E h0) (hJ : zz_IM σ h0) (K : zy_W) (hW : zy_YW σ (h0 + 1) K) : Met l yX9_rule wzX9_rule ({ frames := 6, cells := 0, slots := 0, locals := 144 }) (va_Pc [.ref h0, .int mt, .int nn] (zz_B E σ)) (va_Qi (fun r σ1 => zz_ch (fun a k => (a = h0 + 3 ∨ (h0 + 7 ≤ a ∧ a ≤ h0 + 11))) σ σ1 ∧ (zy_p18 K (σ (h0 + 1) 0).toInt mt.toInt nn.toInt r)) (zz_B E) (zz_A E)) 0 0 (zz_A E) := by
  refine zz_met (cc := cX9_rule) (maxL := 3) (ret := (some .int)) (by decide) rfl (Nat.le_of_ble_eq_true rfl) ?_
  intro p e s m args below meth c ls hx hb hr hts hown hlocks hml hK hP hS hl
  have hl : lv_has ls 3 [(0, .ref h0), (1, .int mt), (2, .int nn)] := hl
  have hown : s.vm.findClass RX9 = some m.cls := hown
  have hi9 : ∀ w ∈ wsX90, w ∈ wzX9_rule := fun w h => List.mem_cons_of_mem _ (hbw9 w h)
  have k_m1000000001 : ((-1000000001) : Int32).toInt = -1000000001 := by decide +kernel
  have k_0 : (0 : Int32).toInt = 0 := by decide +kernel
  have k_240 : (240 : Int32).toInt = 240 := by decide +kernel
  replace t0 : σ (h0 + 1) 2 = σ (h0 + 1) 2 := rfl
  replace t1 : σ (h0 + 1) 3 = σ (h0 + 1) 3 := rfl
  replace t2 : σ (h0 + 1) 0 = σ (h0 + 1) 0 := rfl
  have hC : zz_ch (fun a k => (a = h0 + 3 ∨ (h0 + 7 ≤ a ∧ a ≤ h0 + 11))) σ σ := zz_ch.rf σ
  have hI := hJ.1
  obtain ⟨hh, hsl, hd, hp, htc, hwc, hM, hT⟩ := id hI
  have hz5 := hJ.2.2.1
  have htr := hJ.2.2.2
  have hct := hW.2.1
  refine lv_iload_n hx hb dX9_rule_0 rfl (lv_at hl 1 rfl) ?_
  refine zz_callSp (As := [.int mt]) (rest := []) ⟨hx, hb, hml, hown, hts⟩ hK hP hS (c_X9_isMatter l E σ mt) (va_cwS 1 hts gX9_rule_X9_isMatter rfl rfl rfl (by decide +kernel) ⟨Nat.le_of_ble_eq_true rfl, Nat.le_of_ble_eq_true rfl⟩) rfl hl.1 rfl (Nat.le_of_ble_eq_true rfl) dX9_rule_1 ⟨Nat.zero_le _, Nat.zero_le _⟩ (fun r1 H locs f1 hP1 hS1 => ?_)
  replace hP := hP1
  replace hS := hS1
  clear hP1 hS1
  refine lv_if_eq (tgt := 34) hx hb dX9_rule_4 (by decide) (fun c2 => ?_) (fun c2 => ?_)
  · have c2 := zz_eqT c2
    refine lv_aload_n hx hb dX9_rule_34 rfl (lv_at hl 0 rfl) ?_
    refine lv_ldc (v := (-1000000001)) hx hb hown (hts (.constant RX9 93 (-1000000001)) (List.mem_cons_of_mem _ bm_138)) dX9_rule_35 ?_
    refine zz_callVi (As := [.int (-1000000001)]) (rest := []) ⟨hx, hb, hml, hown, hts⟩ hK hP hS (c_X9_error l E σ h0 (-1000000001) g0 (by omega)) (cwV 1 hts gX9_rule_X9_error rfl rfl rfl (by decide +kernel) ⟨Nat.le_of_ble_eq_true rfl, Nat.le_of_ble_eq_true rfl⟩) (g0.1) rfl rfl hl.1 rfl (Nat.le_of_ble_eq_true rfl) dX9_rule_37 ⟨Nat.zero_le _, Nat.zero_le _⟩ (fun r3 σ3 H locs q3 hP1 hS1 => ?_)
    replace hP := hP1
    replace hS := hS1
    clear hP1 hS1
    try dsimp only at q3
    obtain ⟨w3, f3⟩ := q3
    replace hC := hC.tr (w3.mono (dS23_1 h0))
    replace t0 : σ3 (h0 + 1) 2 = σ (h0 + 1) 2 := (w3 (h0 + 1) 2 (dS23_2 h0)).trans t0
    replace t1 : σ3 (h0 + 1) 3 = σ (h0 + 1) 3 := (w3 (h0 + 1) 3 (dS23_2 h0)).trans t1
    replace t2 : σ3 (h0 + 1) 0 = σ (h0 + 1) 0 := (w3 (h0 + 1) 0 (dS23_2 h0)).trans t2
    exact zz_iret hx hb hr hlocks hK hP hS dX9_rule_40 (by exact ⟨hC, Or.inl ⟨by omega, by omega⟩⟩)
  · have c2 := zz_neT c2
    refine lv_iload_n hx hb dX9_rule_7 rfl (lv_at hl 2 rfl) ?_
    refine lv_iconst (v := 0) hx hb dX9_rule_8 (by decide) ?_
    refine lv_sipush (v := 240) hx hb dX9_rule_9 (by decide) ?_
    refine zz_callSp (As := [.int nn, .int 0, .int 240]) (rest := []) ⟨hx, hb, hml, hown, hts⟩ hK hP hS (c_X9_in l E σ nn 0 240) (va_cwS 3 hts gX9_rule_X9_in rfl rfl rfl (by decide +kernel) ⟨Nat.le_of_ble_eq_true rfl, Nat.le_of_ble_eq_true rfl⟩) rfl hl.1 rfl (Nat.le_of_ble_eq_true rfl) dX9_rule_12 ⟨Nat.zero_le _, Nat.zero_le _⟩ (fun r4 H locs f4 hP1 hS1 => ?_)
    replace hP := hP1
    replace hS := hS1
    clear hP1 hS1
    refine lv_if_eq (tgt := 34) hx hb dX9_rule_15 (by decide) (fun c5 => ?_) (fun c5 => ?_)
    · have c5 := zz_eqT c5
      refine lv_aload_n hx hb dX9_rule_34 rfl (lv_at hl 0 rfl) ?_
      refine lv_ldc (v := (-1000000001)) hx hb hown (hts (.constant RX9 93 (-1000000001)) (List.mem_cons_of_mem _ bm_138)) dX9_rule_35 ?_
      refine zz_callVi (As := [.int (-1000000001)]) (rest := []) ⟨hx, hb, hml, hown, hts⟩ hK hP hS (c_X9_error l E σ h0 (-1000000001) g0 (by omega)) (cwV 1 hts gX9_rule_X9_error rfl rfl rfl (by decide +kernel) ⟨Nat.le_of_ble_eq_true rfl, Nat.le_of_ble_eq_true rfl⟩) (g0.1) rfl rfl hl.1 rfl (Nat.le_of_ble_eq_true rfl) dX9_rule_37 ⟨Nat.zero_le _, Nat.zero_le _⟩ (fun r6 σ6 H locs q6 hP1 hS1 => ?_)
      replace hP := hP1
      replace hS := hS1
      clear hP1 hS1
      try dsimp only at q6
      obtain ⟨w6, f6⟩ := q6
      replace hC := hC.tr (w6.mono (dS23_1 h0))
      replace t0 : σ6 (h0 + 1) 2 = σ (h0 + 1) 2 := (w6 (h0 + 1) 2 (dS23_2 h0)).trans t0
      replace t1 : σ6 (h0 + 1) 3 = σ (h0 + 1) 3 := (w6 (h0 + 1) 3 (dS23_2 h0)).trans t1
      replace t2 : σ6 (h0 + 1) 0 = σ (h0 + 1) 0 := (w6 (h0 + 1) 0 (dS23_2 h0)).trans t2
      exact zz_iret hx hb hr hlocks hK hP hS dX9_rule_40 (by exact ⟨hC, Or.inl ⟨by omega, by omega⟩⟩)
    · have c5 := zz_neT c5
      refine lv_aload_n hx hb dX9_rule_18 rfl (lv_at hl 0 rfl) ?_
      refine lv_iload_n hx hb dX9_rule_19 rfl (lv_at hl 1 rfl) ?_
      refine lv_aload_n hx hb dX9_rule_20 rfl (lv_at hl 0 rfl) ?_
      refine zz_getr hx hb hts hi9 hown hK hP (g0.1) rfl 0 (by decide) (hts (.fieldLink RX9 9 "NoonLawModel" "row" "[I") (List.mem_cons_of_mem _ bm_93)) rfl rfl dX9_rule_21 ?_
      refine lv_iconst (v := 0) hx hb dX9_rule_24 (by decide) ?_
      refine zz_ialc hx hb hK hP (g0.2.1) 0 (by decide) (by decide) t2 dX9_rule_25 ?_
      refine lv_iload_n hx hb dX9_rule_26 rfl (lv_at hl 2 rfl) ?_
      refine lv_iadd hx hb dX9_rule_27 ?_
      refine lv_topi (fun n8 e8 => ?_)
      have f8 : n8.toInt = (σ (h0 + 1) 0).toInt + (nn).toInt := zz_addT e8 (by omega) (by omega)
      refine zz_callVi (As := [.int mt, .int n8]) (rest := []) ⟨hx, hb, hml, hown, hts⟩ hK hP hS (c_X9_underAt l E σ h0 mt n8 g0 (by first | omega | exact hI | exact hT) (by exact hI) K (by exact hW)) (cwV 2 hts gX9_rule_X9_underAt rfl rfl rfl (by decide +kernel) ⟨Nat.le_of_ble_eq_true rfl, Nat.le_of_ble_eq_true rfl⟩) (g0.1) rfl rfl hl.1 rfl (Nat.le_of_ble_eq_true rfl) dX9_rule_28 ⟨Nat.zero_le _, Nat.zero_le _⟩ (fun r9 σ9 H locs q9 hP1 hS1 => ?_)
      replace hP := hP1
      replace hS := hS1
      clear hP1 hS1
      try dsimp only at q9
      obtain ⟨w9, f9⟩ := q9
      replace hC := hC.tr (w9.mono (dS23_3 h0))
      replace t0 : σ9 (h0 + 1) 2 = σ (h0 + 1) 2 := (w9 (h0 + 1) 2 (dS23_4 h0)).trans t0
      replace t1 : σ9 (h0 + 1) 3 = σ (h0 + 1) 3 := (w9 (h0 + 1) 3 (dS23_4 h0)).trans t1
      replace t2 : σ9 (h0 + 1) 0 = σ (h0 + 1) 0 := (w9 (h0 + 1) 0 (dS23_4 h0)).trans t2
      refine lv_goto (tgt := 40) hx hb dX9_rule_31 (by decide) ?_
      exact zz_iret hx hb hr hlocks hK hP hS dX9_rule_40 (by exact ⟨hC, Or.inr ⟨by omega, by rw [f9]; exact congrArg (fun q => zy_u K q mt.toInt) (by omega)⟩⟩)
theorem gX9_now_X9_inForce : GoodIn wzX9_now (wsV RX9 192 RX9 yX9_inForce wzX9_inForce) := wz_co bm_662 (wz_co bm_663 (wz_co bm_664 (wz_co bm_5 (wz_in bm_665))))
theorem gX9_now_X9_mattersUnder : GoodIn wzX9_now (wsV RX9 79 RX9 yX9_mattersUnder wzX9_mattersUnder) := wz_co bm_389 (wz_co bm_390 (wz_co bm_391 (wz_co bm_5 (wz_in bm_392))))
theorem gX9_now_X9_disputes : GoodIn wzX9_now (wsV RX9 195 RX9 yX9_disputes wzX9_disputes) := wz_co bm_666 (wz_co bm_667 (wz_co bm_668 (wz_co bm_5 (wz_in bm_669))))
theorem gX9_now_X9_error : GoodIn wzX9_now (wsV RX9 94 RX9 yX9_error wzX9_error) := wz_co bm_146 (wz_co bm_147 (wz_co bm_148 (wz_co bm_5 (wz_in bm_149))))
set_option maxHeartbeats 4000000 in
set_option maxRecDepth 100000 in
theorem c_X9_now (l : Launch) (E : zz_E) (σ : zz_S) (h0 : Nat) (what : Int32) (g0 : zz_M E h0) (hJ : zz_IM σ h0) (K : zy_W) (hW : zy_YW σ (h0 + 1) K) : Met l yX9_now wzX9_now ({ frames := 7, cells := 0, slots := 0, locals := 168 }) (va_Pc [.ref h0, .int what] (zz_B E σ)) (va_Qi (fun r σ1 => zz_ch (fun a k => (a = h0 + 3 ∨ (h0 + 7 ≤ a ∧ a ≤ h0 + 11))) σ σ1 ∧ (zy_p19 K (σ (h0 + 1) 0).toInt what.toInt r)) (zz_B E) (zz_A E)) 0 0 (zz_A E) := by
  refine zz_met (cc := cX9_now) (maxL := 2) (ret := (some .int)) (by decide) rfl (Nat.le_of_ble_eq_true rfl) ?_
  intro p e s m args below meth c ls hx hb hr hts hown hlocks hml hK hP hS hl
  have hl : lv_has ls 2 [(0, .ref h0), (1, .int what)] := hl
  have hown : s.vm.findClass RX9 = some m.cls := hown
  have hi9 : ∀ w ∈ wsX90, w ∈ wzX9_now := fun w h => List.mem_cons_of_mem _ (hbw9 w h)
  have k_m1000000001 : ((-1000000001) : Int32).toInt = -1000000001 := by decide +kernel
  have k_0 : (0 : Int32).toInt = 0 := by decide +kernel
  have k_1 : (1 : Int32).toInt = 1 := by decide +kernel
  replace t0 : σ (h0 + 1) 2 = σ (h0 + 1) 2 := rfl
  replace t1 : σ (h0 + 1) 3 = σ (h0 + 1) 3 := rfl
  replace t2 : σ (h0 + 1) 0 = σ (h0 + 1) 0 := rfl
  have hC : zz_ch (fun a k => (a = h0 + 3 ∨ (h0 + 7 ≤ a ∧ a ≤ h0 + 11))) σ σ := zz_ch.rf σ
  have hI := hJ.1
  obtain ⟨hh, hsl, hd, hp, htc, hwc, hM, hT⟩ := id hI
  have hz5 := hJ.2.2.1
  have htr := hJ.2.2.2
  have hct := hW.2.1
  refine lv_iload_n hx hb dX9_now_0 rfl (lv_at hl 1 rfl) ?_
  by_cases c1 : (what).toInt = 0
  · refine lv_tableIn (off := 31) (tgt := 32) hx hb dX9_now_1 (by omega) (by omega) (by rw [show ((what).toInt - (0)).toNat = 0 from by omega]; rfl) (by decide) ?_
    refine lv_aload_n hx hb dX9_now_32 rfl (lv_at hl 0 rfl) ?_
    refine zz_callVp (As := []) (rest := []) ⟨hx, hb, hml, hown, hts⟩ hK hP hS (c_X9_inForce l E σ h0 g0 (by exact hI) K (by exact hW)) (cwV 0 hts gX9_now_X9_inForce rfl rfl rfl (by decide +kernel) ⟨Nat.le_of_ble_eq_true rfl, Nat.le_of_ble_eq_true rfl⟩) (g0.1) rfl rfl hl.1 rfl (Nat.le_of_ble_eq_true rfl) dX9_now_33 ⟨Nat.zero_le _, Nat.zero_le _⟩ (fun r2 H locs f2 hP1 hS1 => ?_)
    replace hP := hP1
    replace hS := hS1
    clear hP1 hS1
    exact zz_iret hx hb hr hlocks hK hP hS dX9_now_36 (by exact ⟨hC, Or.inr (Or.inl ⟨by omega, congrArg Int32.toInt f2⟩)⟩)
  by_cases c3 : (what).toInt = 1
  · refine lv_tableIn (off := 36) (tgt := 37) hx hb dX9_now_1 (by omega) (by omega) (by rw [show ((what).toInt - (0)).toNat = 1 from by omega]; rfl) (by decide) ?_
    refine lv_aload_n hx hb dX9_now_37 rfl (lv_at hl 0 rfl) ?_
    refine lv_iconst (v := 1) hx hb dX9_now_38 (by decide) ?_
    refine lv_aload_n hx hb dX9_now_39 rfl (lv_at hl 0 rfl) ?_
    refine zz_getr hx hb hts hi9 hown hK hP (g0.1) rfl 0 (by decide) (hts (.fieldLink RX9 9 "NoonLawModel" "row" "[I") (List.mem_cons_of_mem _ bm_93)) rfl rfl dX9_now_40 ?_
    refine lv_iconst (v := 0) hx hb dX9_now_43 (by decide) ?_
    refine zz_ialc hx hb hK hP (g0.2.1) 0 (by decide) (by decide) t2 dX9_now_44 ?_
    refine zz_callVi (As := [.int 1, .int (σ (h0 + 1) 0)]) (rest := []) ⟨hx, hb, hml, hown, hts⟩ hK hP hS (c_X9_mattersUnder l E σ h0 1 (σ (h0 + 1) 0) g0 (by first | omega | exact hI | exact hT) (by exact hI) K (by exact hW)) (cwV 2 hts gX9_now_X9_mattersUnder rfl rfl rfl (by decide +kernel) ⟨Nat.le_of_ble_eq_true rfl, Nat.le_of_ble_eq_true rfl⟩) (g0.1) rfl rfl hl.1 rfl (Nat.le_of_ble_eq_true rfl) dX9_now_45 ⟨Nat.zero_le _, Nat.zero_le _⟩ (fun r5 σ5 H locs q5 hP1 hS1 => ?_)
    replace hP := hP1
    replace hS := hS1
    clear hP1 hS1
    try dsimp only at q5
    obtain ⟨w5, f5⟩ := q5
    replace hC := hC.tr (w5.mono (dS23_3 h0))
    replace t0 : σ5 (h0 + 1) 2 = σ (h0 + 1) 2 := (w5 (h0 + 1) 2 (dS23_4 h0)).trans t0
    replace t1 : σ5 (h0 + 1) 3 = σ (h0 + 1) 3 := (w5 (h0 + 1) 3 (dS23_4 h0)).trans t1
    replace t2 : σ5 (h0 + 1) 0 = σ (h0 + 1) 0 := (w5 (h0 + 1) 0 (dS23_4 h0)).trans t2
    exact zz_iret hx hb hr hlocks hK hP hS dX9_now_48 (by exact ⟨hC, Or.inr (Or.inr (Or.inl ⟨by omega, by rw [f5, k_1]⟩))⟩)
  by_cases c6 : (what).toInt = 2
  · refine lv_tableIn (off := 48) (tgt := 49) hx hb dX9_now_1 (by omega) (by omega) (by rw [show ((what).toInt - (0)).toNat = 2 from by omega]; rfl) (by decide) ?_
    refine lv_aload_n hx hb dX9_now_49 rfl (lv_at hl 0 rfl) ?_
    refine lv_iconst (v := 0) hx hb dX9_now_50 (by decide) ?_
    refine lv_aload_n hx hb dX9_now_51 rfl (lv_at hl 0 rfl) ?_
    refine zz_getr hx hb hts hi9 hown hK hP (g0.1) rfl 0 (by decide) (hts (.fieldLink RX9 9 "NoonLawModel" "row" "[I") (List.mem_cons_of_mem _ bm_93)) rfl rfl dX9_now_52 ?_
    refine lv_iconst (v := 0) hx hb dX9_now_55 (by decide) ?_
    refine zz_ialc hx hb hK hP (g0.2.1) 0 (by decide) (by decide) t2 dX9_now_56 ?_
    refine zz_callVi (As := [.int 0, .int (σ (h0 + 1) 0)]) (rest := []) ⟨hx, hb, hml, hown, hts⟩ hK hP hS (c_X9_mattersUnder l E σ h0 0 (σ (h0 + 1) 0) g0 (by first | omega | exact hI | exact hT) (by exact hI) K (by exact hW)) (cwV 2 hts gX9_now_X9_mattersUnder rfl rfl rfl (by decide +kernel) ⟨Nat.le_of_ble_eq_true rfl, Nat.le_of_ble_eq_true rfl⟩) (g0.1) rfl rfl hl.1 rfl (Nat.le_of_ble_eq_true rfl) dX9_now_57 ⟨Nat.zero_le _, Nat.zero_le _⟩ (fun r8 σ8 H locs q8 hP1 hS1 => ?_)
    replace hP := hP1
    replace hS := hS1
    clear hP1 hS1
    try dsimp only at q8
    obtain ⟨w8, f8⟩ := q8
    replace hC := hC.tr (w8.mono (dS23_3 h0))
    replace t0 : σ8 (h0 + 1) 2 = σ (h0 + 1) 2 := (w8 (h0 + 1) 2 (dS23_4 h0)).trans t0
    replace t1 : σ8 (h0 + 1) 3 = σ (h0 + 1) 3 := (w8 (h0 + 1) 3 (dS23_4 h0)).trans t1
    replace t2 : σ8 (h0 + 1) 0 = σ (h0 + 1) 0 := (w8 (h0 + 1) 0 (dS23_4 h0)).trans t2
    exact zz_iret hx hb hr hlocks hK hP hS dX9_now_60 (by exact ⟨hC, Or.inr (Or.inr (Or.inr (Or.inl ⟨by omega, by rw [f8, k_0]⟩)))⟩)
  by_cases c9 : (what).toInt = 3
  · refine lv_tableIn (off := 60) (tgt := 61) hx hb dX9_now_1 (by omega) (by omega) (by rw [show ((what).toInt - (0)).toNat = 3 from by omega]; rfl) (by decide) ?_
    refine lv_aload_n hx hb dX9_now_61 rfl (lv_at hl 0 rfl) ?_
    refine lv_aload_n hx hb dX9_now_62 rfl (lv_at hl 0 rfl) ?_
    refine zz_getr hx hb hts hi9 hown hK hP (g0.1) rfl 0 (by decide) (hts (.fieldLink RX9 9 "NoonLawModel" "row" "[I") (List.mem_cons_of_mem _ bm_93)) rfl rfl dX9_now_63 ?_
    refine lv_iconst (v := 0) hx hb dX9_now_66 (by decide) ?_
    refine zz_ialc hx hb hK hP (g0.2.1) 0 (by decide) (by decide) t2 dX9_now_67 ?_
    refine zz_callVi (As := [.int (σ (h0 + 1) 0)]) (rest := []) ⟨hx, hb, hml, hown, hts⟩ hK hP hS (c_X9_disputes l E σ h0 (σ (h0 + 1) 0) g0 (by first | omega | exact hI | exact hT) (by exact hI) K (by exact hW)) (cwV 1 hts gX9_now_X9_disputes rfl rfl rfl (by decide +kernel) ⟨Nat.le_of_ble_eq_true rfl, Nat.le_of_ble_eq_true rfl⟩) (g0.1) rfl rfl hl.1 rfl (Nat.le_of_ble_eq_true rfl) dX9_now_68 ⟨Nat.zero_le _, Nat.zero_le _⟩ (fun r11 σ11 H locs q11 hP1 hS1 => ?_)
    replace hP := hP1
    replace hS := hS1
    clear hP1 hS1
    try dsimp only at q11
    obtain ⟨w11, f11⟩ := q11
    replace hC := hC.tr (w11.mono (dS23_3 h0))
    replace t0 : σ11 (h0 + 1) 2 = σ (h0 + 1) 2 := (w11 (h0 + 1) 2 (dS23_4 h0)).trans t0
    replace t1 : σ11 (h0 + 1) 3 = σ (h0 + 1) 3 := (w11 (h0 + 1) 3 (dS23_4 h0)).trans t1
    replace t2 : σ11 (h0 + 1) 0 = σ (h0 + 1) 0 := (w11 (h0 + 1) 0 (dS23_4 h0)).trans t2
    exact zz_iret hx hb hr hlocks hK hP hS dX9_now_71 (by exact ⟨hC, Or.inr (Or.inr (Or.inr (Or.inr (⟨by omega, f11⟩))))⟩)
  refine lv_tableOut (tgt := 72) hx hb dX9_now_1 (by omega) (by decide) ?_
  refine lv_aload_n hx hb dX9_now_72 rfl (lv_at hl 0 rfl) ?_
  refine lv_ldc (v := (-1000000001)) hx hb hown (hts (.constant RX9 93 (-1000000001)) (List.mem_cons_of_mem _ bm_138)) dX9_now_73 ?_
  refine zz_callVi (As := [.int (-1000000001)]) (rest := []) ⟨hx, hb, hml, hown, hts⟩ hK hP hS (c_X9_error l E σ h0 (-1000000001) g0 (by omega)) (cwV 1 hts gX9_now_X9_error rfl rfl rfl (by decide +kernel) ⟨Nat.le_of_ble_eq_true rfl, Nat.le_of_ble_eq_true rfl⟩) (g0.1) rfl rfl hl.1 rfl (Nat.le_of_ble_eq_true rfl) dX9_now_75 ⟨Nat.zero_le _, Nat.zero_le _⟩ (fun r12 σ12 H locs q12 hP1 hS1 => ?_)
  replace hP := hP1
  replace hS := hS1
  clear hP1 hS1
  try dsimp only at q12
  obtain ⟨w12, f12⟩ := q12
  replace hC := hC.tr (w12.mono (dS23_1 h0))
  replace t0 : σ12 (h0 + 1) 2 = σ (h0 + 1) 2 := (w12 (h0 + 1) 2 (dS23_2 h0)).trans t0
  replace t1 : σ12 (h0 + 1) 3 = σ (h0 + 1) 3 := (w12 (h0 + 1) 3 (dS23_2 h0)).trans t1
  replace t2 : σ12 (h0 + 1) 0 = σ (h0 + 1) 0 := (w12 (h0 + 1) 0 (dS23_2 h0)).trans t2
  exact zz_iret hx hb hr hlocks hK hP hS dX9_now_78 (by exact ⟨hC, Or.inl ⟨by omega, by omega⟩⟩)
theorem gX9_then_X9_isPerson : GoodIn wzX9_then (wsV RX9 108 RX9 yX9_isPerson wzX9_isPerson) := wz_co bm_377 (wz_co bm_378 (wz_co bm_379 (wz_co bm_5 (wz_in bm_380))))
theorem gX9_then_X9_in : GoodIn wzX9_then (va_wsS RX9 47 yX9_in wzX9_in) := wz_co bm_143 (wz_co bm_144 (wz_co bm_5 (wz_in bm_145)))
theorem gX9_then_X9_error : GoodIn wzX9_then (wsV RX9 94 RX9 yX9_error wzX9_error) := wz_co bm_146 (wz_co bm_147 (wz_co bm_148 (wz_co bm_5 (wz_in bm_149))))
theorem gX9_then_X9_about : GoodIn wzX9_then (wsV RX9 76 RX9 yX9_about wzX9_about) := wz_co bm_381 (wz_co bm_382 (wz_co bm_383 (wz_co bm_5 (wz_in bm_384))))
theorem gX9_then_X9_fineOf : GoodIn wzX9_then (wsV RX9 111 RX9 yX9_fineOf wzX9_fineOf) := wz_co bm_404 (wz_co bm_405 (wz_co bm_406 (wz_co bm_5 (wz_in bm_407))))
theorem gX9_then_X9_held : GoodIn wzX9_then (va_wsS RX9 175 yX9_held wzX9_held) := wz_co bm_263 (wz_co bm_264 (wz_co bm_5 (wz_in bm_265)))
set_option maxHeartbeats 4000000 in
set_option maxRecDepth 100000 in
theorem c_X9_then (l : Launch) (E : zz_E) (σ : zz_S) (h0 : Nat) (ps : Int32) (nn : Int32) (g0 : zz_M E h0) (hJ : zz_IM σ h0) (K : zy_W) (hW : zy_YW σ (h0 + 1) K) (hFB : zy_FB (zz_PM 1 σ (h0 + 1))) : Met l yX9_then wzX9_then ({ frames := 9, cells := 0, slots := 0, locals := 213 }) (va_Pc [.ref h0, .int ps, .int nn] (zz_B E σ)) (va_Qi (fun r σ1 => zz_ch (fun a k => (a = h0 + 3 ∨ (h0 + 7 ≤ a ∧ a ≤ h0 + 11))) σ σ1 ∧ (zy_p20 K (σ (h0 + 1) 3).toInt (zz_PM 0 σ (h0 + 1)) (zz_PM 1 σ (h0 + 1)) (σ (h0 + 1) 0).toInt ps nn r)) (zz_B E) (zz_A E)) 0 0 (zz_A E) := by
  refine zz_met (cc := cX9_then) (maxL := 5) (ret := (some .int)) (by decide) rfl (Nat.le_of_ble_eq_true rfl) ?_
  intro p e s m args below meth c ls hx hb hr hts hown hlocks hml hK hP hS hl
  have hl : lv_has ls 5 [(0, .ref h0), (1, .int ps), (2, .int nn)] := hl
  have hown : s.vm.findClass RX9 = some m.cls := hown
  have hi9 : ∀ w ∈ wsX90, w ∈ wzX9_then := fun w h => List.mem_cons_of_mem _ (hbw9 w h)
  have k_m1000000001 : ((-1000000001) : Int32).toInt = -1000000001 := by decide +kernel
  have k_0 : (0 : Int32).toInt = 0 := by decide +kernel
  have k_1 : (1 : Int32).toInt = 1 := by decide +kernel
  have k_240 : (240 : Int32).toInt = 240 := by decide +kernel
  have k_9999 : (9999 : Int32).toInt = 9999 := by decide +kernel
  replace t0 : σ (h0 + 1) 2 = σ (h0 + 1) 2 := rfl
  replace t1 : σ (h0 + 1) 3 = σ (h0 + 1) 3 := rfl
  replace t2 : σ (h0 + 1) 0 = σ (h0 + 1) 0 := rfl
  have hC : zz_ch (fun a k => (a = h0 + 3 ∨ (h0 + 7 ≤ a ∧ a ≤ h0 + 11))) σ σ := zz_ch.rf σ
  have hI := hJ.1
  obtain ⟨hh, hsl, hd, hp, htc, hwc, hM, hT⟩ := id hI
  have hz5 := hJ.2.2.1
  have htr := hJ.2.2.2
  have hct := hW.2.1
  refine lv_aload_n hx hb dX9_then_0 rfl (lv_at hl 0 rfl) ?_
  refine lv_iload_n hx hb dX9_then_1 rfl (lv_at hl 1 rfl) ?_
  refine zz_callVp (As := [.int ps]) (rest := []) ⟨hx, hb, hml, hown, hts⟩ hK hP hS (c_X9_isPerson l E σ h0 ps g0 (by exact hp)) (cwV 1 hts gX9_then_X9_isPerson rfl rfl rfl (by decide +kernel) ⟨Nat.le_of_ble_eq_true rfl, Nat.le_of_ble_eq_true rfl⟩) (g0.1) rfl rfl hl.1 rfl (Nat.le_of_ble_eq_true rfl) dX9_then_2 ⟨Nat.zero_le _, Nat.zero_le _⟩ (fun r1 H locs f1 hP1 hS1 => ?_)
  replace hP := hP1
  replace hS := hS1
  clear hP1 hS1
  refine lv_if_eq (tgt := 19) hx hb dX9_then_5 (by decide) (fun c2 => ?_) (fun c2 => ?_)
  · have c2 := zz_eqT c2
    refine lv_aload_n hx hb dX9_then_19 rfl (lv_at hl 0 rfl) ?_
    refine lv_ldc (v := (-1000000001)) hx hb hown (hts (.constant RX9 93 (-1000000001)) (List.mem_cons_of_mem _ bm_138)) dX9_then_20 ?_
    refine zz_callVi (As := [.int (-1000000001)]) (rest := []) ⟨hx, hb, hml, hown, hts⟩ hK hP hS (c_X9_error l E σ h0 (-1000000001) g0 (by omega)) (cwV 1 hts gX9_then_X9_error rfl rfl rfl (by decide +kernel) ⟨Nat.le_of_ble_eq_true rfl, Nat.le_of_ble_eq_true rfl⟩) (g0.1) rfl rfl hl.1 rfl (Nat.le_of_ble_eq_true rfl) dX9_then_22 ⟨Nat.zero_le _, Nat.zero_le _⟩ (fun r3 σ3 H locs q3 hP1 hS1 => ?_)
    replace hP := hP1
    replace hS := hS1
    clear hP1 hS1
    try dsimp only at q3
    obtain ⟨w3, f3⟩ := q3
    replace hC := hC.tr (w3.mono (dS23_1 h0))
    replace t0 : σ3 (h0 + 1) 2 = σ (h0 + 1) 2 := (w3 (h0 + 1) 2 (dS23_2 h0)).trans t0
    replace t1 : σ3 (h0 + 1) 3 = σ (h0 + 1) 3 := (w3 (h0 + 1) 3 (dS23_2 h0)).trans t1
    replace t2 : σ3 (h0 + 1) 0 = σ (h0 + 1) 0 := (w3 (h0 + 1) 0 (dS23_2 h0)).trans t2
    exact zz_iret hx hb hr hlocks hK hP hS dX9_then_25 (by exact ⟨hC, Or.inl ⟨by omega, by omega⟩⟩)
  · have c2 := zz_neT c2
    refine lv_iload_n hx hb dX9_then_8 rfl (lv_at hl 2 rfl) ?_
    refine lv_iconst (v := 0) hx hb dX9_then_9 (by decide) ?_
    refine lv_sipush (v := 240) hx hb dX9_then_10 (by decide) ?_
    refine zz_callSp (As := [.int nn, .int 0, .int 240]) (rest := []) ⟨hx, hb, hml, hown, hts⟩ hK hP hS (c_X9_in l E σ nn 0 240) (va_cwS 3 hts gX9_then_X9_in rfl rfl rfl (by decide +kernel) ⟨Nat.le_of_ble_eq_true rfl, Nat.le_of_ble_eq_true rfl⟩) rfl hl.1 rfl (Nat.le_of_ble_eq_true rfl) dX9_then_13 ⟨Nat.zero_le _, Nat.zero_le _⟩ (fun r4 H locs f4 hP1 hS1 => ?_)
    replace hP := hP1
    replace hS := hS1
    clear hP1 hS1
    refine lv_if_ne (tgt := 26) hx hb dX9_then_16 (by decide) (fun c5 => ?_) (fun c5 => ?_)
    · have c5 := zz_neT c5
      refine lv_aload_n hx hb dX9_then_26 rfl (lv_at hl 0 rfl) ?_
      refine lv_iload_n hx hb dX9_then_27 rfl (lv_at hl 1 rfl) ?_
      refine lv_iconst (v := 1) hx hb dX9_then_28 (by decide) ?_
      refine zz_callVp (As := [.int ps, .int 1]) (rest := []) ⟨hx, hb, hml, hown, hts⟩ hK hP hS (c_X9_about l E σ h0 ps 1 g0 (by omega)) (cwV 2 hts gX9_then_X9_about rfl rfl rfl (by decide +kernel) ⟨Nat.le_of_ble_eq_true rfl, Nat.le_of_ble_eq_true rfl⟩) (g0.1) rfl rfl hl.1 rfl (Nat.le_of_ble_eq_true rfl) dX9_then_29 ⟨Nat.zero_le _, Nat.zero_le _⟩ (fun r6 H locs f6 hP1 hS1 => ?_)
      replace hP := hP1
      replace hS := hS1
      clear hP1 hS1
      have hwo : σ (h0 + 1) (61 + 2 * ps.toInt.toNat) = Int32.ofInt (zz_PM 0 σ (h0 + 1) ps.toInt.toNat) := zz_ofI (by rw [zz_PM.at (by omega)]; rfl)
      have hf0 : r6.toInt = zz_PM 1 σ (h0 + 1) ps.toInt.toNat := by rw [f6, zz_PM.at (by omega)]; exact congrArg (fun q => (σ (h0 + 1) q).toInt) (by omega)
      have hfb := hFB ps.toInt.toNat
      refine lv_istore_n (lv' := [(3, .int r6), (0, .ref h0), (1, .int ps), (2, .int nn)]) hx hb dX9_then_32 rfl hl (by decide) rfl (fun ls hl => ?_)
      refine lv_iconst (v := 0) hx hb dX9_then_33 (by decide) ?_
      refine lv_istore (lv' := [(4, .int 0), (3, .int r6), (0, .ref h0), (1, .int ps), (2, .int nn)]) hx hb dX9_then_34 hl (by decide) rfl (fun ls hl => ?_)
      have J36 : ∀ (n : Nat) (fi : Int32) (ii : Int32) (σa : zz_S) (H : Heap) (locs : List Loc) (ls : Array Slot), ((241 - ii.toInt).toNat) < n → (zz_ch (fun a k => (a = h0 + 3 ∨ (h0 + 7 ≤ a ∧ a ≤ h0 + 11))) σ σa) → (0 ≤ ii.toInt ∧ ii.toInt ≤ nn.toInt) → (fi.toInt = zy_th K (σ (h0 + 1) 0).toInt (Int32.ofInt (zz_PM 0 σ (h0 + 1) ps.toInt.toNat)) ps (zz_PM 1 σ (h0 + 1) ps.toInt.toNat) ii.toInt.toNat) → (0 ≤ fi.toInt ∧ fi.toInt ≤ 9999) → (σa (h0 + 1) 2 = σ (h0 + 1) 2) → (σa (h0 + 1) 3 = σ (h0 + 1) 3) → (σa (h0 + 1) 0 = σ (h0 + 1) 0) → zz_P E σa H → va_S (zz_A E) s.heap H locs → lv_has ls 5 [(4, .int ii), (3, .int fi), (0, .ref h0), (1, .int ps), (2, .int nn)] → W p l e (headSpec wzX9_then ({ frames := 9, cells := 0, slots := 0, locals := 213 })).room s m args below meth c H locs 0 0 (MQ below (va_Qi (fun r σ1 => zz_ch (fun a k => (a = h0 + 3 ∨ (h0 + 7 ≤ a ∧ a ≤ h0 + 11))) σ σ1 ∧ (zy_p20 K (σ (h0 + 1) 3).toInt (zz_PM 0 σ (h0 + 1)) (zz_PM 1 σ (h0 + 1)) (σ (h0 + 1) 0).toInt ps nn r)) (zz_B E) (zz_A E)) args s 0 0 (zz_A E)) (F0 m 36 ls []) := by
        intro n
        induction n with
        | zero => intro fi ii σa H locs ls hm; exact absurd hm (Nat.not_lt_zero _)
        | succ n ih36 =>
          intro fi ii σa H locs ls hm hC f36_0 f36_1 f36_2 t0 t1 t2 hP hS hl
          have hC0 := hC
          refine lv_iload hx hb dX9_then_36 (lv_at hl 0 rfl) ?_
          refine lv_iload_n hx hb dX9_then_38 rfl (lv_at hl 4 rfl) ?_
          refine lv_icmp_ge (tgt := 72) hx hb dX9_then_39 (by decide) (fun c7 => ?_) (fun c7 => ?_)
          · have c7 := zz_leT c7
            refine lv_iload_n hx hb dX9_then_72 rfl (lv_at hl 1 rfl) ?_
            exact zz_iret hx hb hr hlocks hK hP hS dX9_then_73 (by exact ⟨hC, Or.inr ⟨by omega, by rw [f36_1, show ii.toInt.toNat = nn.toInt.toNat from by omega]⟩⟩)
          · have c7 := zz_nleT c7
            refine lv_iload_n hx hb dX9_then_42 rfl (lv_at hl 1 rfl) ?_
            refine lv_aload_n hx hb dX9_then_43 rfl (lv_at hl 2 rfl) ?_
            refine lv_iload_n hx hb dX9_then_44 rfl (lv_at hl 3 rfl) ?_
            refine lv_aload_n hx hb dX9_then_45 rfl (lv_at hl 2 rfl) ?_
            refine zz_getr hx hb hts hi9 hown hK hP (g0.1) rfl 0 (by decide) (hts (.fieldLink RX9 9 "NoonLawModel" "row" "[I") (List.mem_cons_of_mem _ bm_93)) rfl rfl dX9_then_46 ?_
            refine lv_iconst (v := 0) hx hb dX9_then_49 (by decide) ?_
            refine zz_ialc hx hb hK hP (g0.2.1) 0 (by decide) (by decide) t2 dX9_then_50 ?_
            refine lv_iload hx hb dX9_then_51 (lv_at hl 0 rfl) ?_
            refine lv_iadd hx hb dX9_then_53 ?_
            refine lv_topi (fun n9 e9 => ?_)
            have f9 : n9.toInt = (σ (h0 + 1) 0).toInt + (ii).toInt := zz_addT e9 (by omega) (by omega)
            refine zz_callVi (As := [.int ps, .int n9]) (rest := [.int fi]) ⟨hx, hb, hml, hown, hts⟩ hK hP hS (c_X9_fineOf l E σa h0 ps n9 g0 (by omega) (by first | omega | exact hI | exact hT) (by exact hI.keep (fun k => hC _ _ (by first | (dsimp only; omega) | omega))) K (by exact hW.keep (fun k q => hC _ _ (by first | (dsimp only; omega) | omega)))) (cwV 2 hts gX9_then_X9_fineOf rfl rfl rfl (by decide +kernel) ⟨Nat.le_of_ble_eq_true rfl, Nat.le_of_ble_eq_true rfl⟩) (g0.1) rfl rfl hl.1 rfl (Nat.le_of_ble_eq_true rfl) dX9_then_54 ⟨Nat.zero_le _, Nat.zero_le _⟩ (fun r10 σ10 H locs q10 hP1 hS1 => ?_)
            replace hP := hP1
            replace hS := hS1
            clear hP1 hS1
            try dsimp only at q10
            obtain ⟨w10, f10⟩ := q10
            replace hC := hC.tr (w10.mono (dS23_3 h0))
            try simp only [t0, t1, t2] at f10
            replace t0 : σ10 (h0 + 1) 2 = σ (h0 + 1) 2 := (w10 (h0 + 1) 2 (dS23_4 h0)).trans t0
            replace t1 : σ10 (h0 + 1) 3 = σ (h0 + 1) 3 := (w10 (h0 + 1) 3 (dS23_4 h0)).trans t1
            replace t2 : σ10 (h0 + 1) 0 = σ (h0 + 1) 0 := (w10 (h0 + 1) 0 (dS23_4 h0)).trans t2
            have hfn : r10.toInt = zy_fn K ((σ (h0 + 1) 0).toInt + ((ii.toInt.toNat : Nat) : Int)) (Int32.ofInt (zz_PM 0 σ (h0 + 1) ps.toInt.toNat)) ps := by rw [f10, hC0 _ _ (by first | (dsimp only; omega) | omega), hwo, show n9.toInt = (σ (h0 + 1) 0).toInt + ((ii.toInt.toNat : Nat) : Int) from by omega]
            have hfr := zy_fn_rng K ((σ (h0 + 1) 0).toInt + ((ii.toInt.toNat : Nat) : Int)) (Int32.ofInt (zz_PM 0 σ (h0 + 1) ps.toInt.toNat)) ps
            refine lv_iadd hx hb dX9_then_57 ?_
            refine lv_topi (fun n11 e11 => ?_)
            have f11 : n11.toInt = (fi).toInt + (r10).toInt := zz_addT e11 (by omega) (by omega)
            refine lv_iconst (v := 0) hx hb dX9_then_58 (by decide) ?_
            refine lv_sipush (v := 9999) hx hb dX9_then_59 (by decide) ?_
            refine zz_callSp (As := [.int n11, .int 0, .int 9999]) (rest := []) ⟨hx, hb, hml, hown, hts⟩ hK hP hS (c_X9_held l E σ10 n11 0 9999 (by omega)) (va_cwS 3 hts gX9_then_X9_held rfl rfl rfl (by decide +kernel) ⟨Nat.le_of_ble_eq_true rfl, Nat.le_of_ble_eq_true rfl⟩) rfl hl.1 rfl (Nat.le_of_ble_eq_true rfl) dX9_then_62 ⟨Nat.zero_le _, Nat.zero_le _⟩ (fun r12 H locs f12 hP1 hS1 => ?_)
            replace hP := hP1
            replace hS := hS1
            clear hP1 hS1
            try simp only [t0, t1, t2] at f12
            have hcl := f12
            rw [k_0, k_9999] at hcl
            have hc9 := zz_cl_rng (v := n11.toInt) (lo := 0) (hi := 9999) (by decide)
            refine lv_istore_n (lv' := [(3, .int r12), (4, .int ii), (0, .ref h0), (1, .int ps), (2, .int nn)]) hx hb dX9_then_65 rfl hl (by decide) rfl (fun ls hl => ?_)
            obtain ⟨n13, e13⟩ : ∃ y : Int32, y = ii + 1 := ⟨_, rfl⟩
            have f13 : n13.toInt = (ii).toInt + (1) := by have h9 := zz_addT e13 (by omega) (by omega); omega
            refine lv_iinc (v := n13) (lv' := [(4, .int n13), (3, .int r12), (0, .ref h0), (1, .int ps), (2, .int nn)]) hx hb dX9_then_66 hl (k := 1) rfl (by rw [e13]; rfl) (by decide) rfl (fun ls hl => ?_)
            refine lv_goto (tgt := 36) hx hb dX9_then_69 (by decide) ?_
            exact ih36 r12 n13 σ10 _ _ _ (by omega) hC (by first | omega | exact hI | exact hT) (by exact zy_th_s f36_1 hfn (by rw [zy_m9_cl (by omega) hcl]; exact congrArg zy_m9 (by omega)) (by omega)) (by rw [hcl]; exact hc9) t0 t1 t2 hP hS (lv_sub hl [0, 1, 2, 3, 4] rfl)
      exact J36 _ r6 0 σ _ _ _ (Nat.lt_succ_self _) hC (by first | omega | exact hI | exact hT) (by rw [show (0 : Int32).toInt.toNat = 0 from by decide]; exact hf0) (by omega) t0 t1 t2 hP hS (lv_sub hl [0, 1, 2, 3, 4] rfl)
    · have c5 := zz_eqT c5
      refine lv_aload_n hx hb dX9_then_19 rfl (lv_at hl 0 rfl) ?_
      refine lv_ldc (v := (-1000000001)) hx hb hown (hts (.constant RX9 93 (-1000000001)) (List.mem_cons_of_mem _ bm_138)) dX9_then_20 ?_
      refine zz_callVi (As := [.int (-1000000001)]) (rest := []) ⟨hx, hb, hml, hown, hts⟩ hK hP hS (c_X9_error l E σ h0 (-1000000001) g0 (by omega)) (cwV 1 hts gX9_then_X9_error rfl rfl rfl (by decide +kernel) ⟨Nat.le_of_ble_eq_true rfl, Nat.le_of_ble_eq_true rfl⟩) (g0.1) rfl rfl hl.1 rfl (Nat.le_of_ble_eq_true rfl) dX9_then_22 ⟨Nat.zero_le _, Nat.zero_le _⟩ (fun r14 σ14 H locs q14 hP1 hS1 => ?_)
      replace hP := hP1
      replace hS := hS1
      clear hP1 hS1
      try dsimp only at q14
      obtain ⟨w14, f14⟩ := q14
      replace hC := hC.tr (w14.mono (dS23_1 h0))
      replace t0 : σ14 (h0 + 1) 2 = σ (h0 + 1) 2 := (w14 (h0 + 1) 2 (dS23_2 h0)).trans t0
      replace t1 : σ14 (h0 + 1) 3 = σ (h0 + 1) 3 := (w14 (h0 + 1) 3 (dS23_2 h0)).trans t1
      replace t2 : σ14 (h0 + 1) 0 = σ (h0 + 1) 0 := (w14 (h0 + 1) 0 (dS23_2 h0)).trans t2
      exact zz_iret hx hb hr hlocks hK hP hS dX9_then_25 (by exact ⟨hC, Or.inl ⟨by omega, by omega⟩⟩)
theorem gX9_first_X9_isMatter : GoodIn wzX9_first (va_wsS RX9 189 yX9_isMatter wzX9_isMatter) := wz_co bm_646 (wz_co bm_647 (wz_co bm_5 (wz_in bm_648)))
theorem gX9_first_X9_in : GoodIn wzX9_first (va_wsS RX9 47 yX9_in wzX9_in) := wz_co bm_143 (wz_co bm_144 (wz_co bm_5 (wz_in bm_145)))
theorem gX9_first_X9_error : GoodIn wzX9_first (wsV RX9 94 RX9 yX9_error wzX9_error) := wz_co bm_146 (wz_co bm_147 (wz_co bm_148 (wz_co bm_5 (wz_in bm_149))))
theorem gX9_first_X9_underAt : GoodIn wzX9_first (wsV RX9 73 RX9 yX9_underAt wzX9_underAt) := wz_co bm_393 (wz_co bm_394 (wz_co bm_395 (wz_co bm_5 (wz_in bm_396))))
set_option maxHeartbeats 4000000 in
set_option maxRecDepth 100000 in
theorem c_X9_first (l : Launch) (E : zz_E) (σ : zz_S) (h0 : Nat) (mt : Int32) (ru : Int32) (g0 : zz_M E h0) (hJ : zz_IM σ h0) (K : zy_W) (hW : zy_YW σ (h0 + 1) K) : Met l yX9_first wzX9_first ({ frames := 6, cells := 0, slots := 0, locals := 144 }) (va_Pc [.ref h0, .int mt, .int ru] (zz_B E σ)) (va_Qi (fun r σ1 => zz_ch (fun a k => (a = h0 + 3 ∨ (h0 + 7 ≤ a ∧ a ≤ h0 + 11))) σ σ1 ∧ (zy_p21 K (σ (h0 + 1) 0).toInt mt.toInt ru.toInt r)) (zz_B E) (zz_A E)) 0 0 (zz_A E) := by
  refine zz_met (cc := cX9_first) (maxL := 4) (ret := (some .int)) (by decide) rfl (Nat.le_of_ble_eq_true rfl) ?_
  intro p e s m args below meth c ls hx hb hr hts hown hlocks hml hK hP hS hl
  have hl : lv_has ls 4 [(0, .ref h0), (1, .int mt), (2, .int ru)] := hl
  have hown : s.vm.findClass RX9 = some m.cls := hown
  have hi9 : ∀ w ∈ wsX90, w ∈ wzX9_first := fun w h => List.mem_cons_of_mem _ (hbw9 w h)
  have k_m1000000002 : ((-1000000002) : Int32).toInt = -1000000002 := by decide +kernel
  have k_m1000000001 : ((-1000000001) : Int32).toInt = -1000000001 := by decide +kernel
  have k_m1 : ((-1) : Int32).toInt = -1 := by decide +kernel
  have k_0 : (0 : Int32).toInt = 0 := by decide +kernel
  have k_1 : (1 : Int32).toInt = 1 := by decide +kernel
  have k_240 : (240 : Int32).toInt = 240 := by decide +kernel
  replace t0 : σ (h0 + 1) 2 = σ (h0 + 1) 2 := rfl
  replace t1 : σ (h0 + 1) 3 = σ (h0 + 1) 3 := rfl
  replace t2 : σ (h0 + 1) 0 = σ (h0 + 1) 0 := rfl
  have hC : zz_ch (fun a k => (a = h0 + 3 ∨ (h0 + 7 ≤ a ∧ a ≤ h0 + 11))) σ σ := zz_ch.rf σ
  have hI := hJ.1
  obtain ⟨hh, hsl, hd, hp, htc, hwc, hM, hT⟩ := id hI
  have hz5 := hJ.2.2.1
  have htr := hJ.2.2.2
  have hct := hW.2.1
  obtain ⟨X9, hX9⟩ : ∃ X : Int, zz_hid (zy_fi (fun i => zy_u K ((σ (h0 + 1) 0).toInt + (i : Int)) mt.toInt = ru.toInt) 241 0 = X) := ⟨_, rfl⟩
  refine lv_iload_n hx hb dX9_first_0 rfl (lv_at hl 1 rfl) ?_
  refine zz_callSp (As := [.int mt]) (rest := []) ⟨hx, hb, hml, hown, hts⟩ hK hP hS (c_X9_isMatter l E σ mt) (va_cwS 1 hts gX9_first_X9_isMatter rfl rfl rfl (by decide +kernel) ⟨Nat.le_of_ble_eq_true rfl, Nat.le_of_ble_eq_true rfl⟩) rfl hl.1 rfl (Nat.le_of_ble_eq_true rfl) dX9_first_1 ⟨Nat.zero_le _, Nat.zero_le _⟩ (fun r1 H locs f1 hP1 hS1 => ?_)
  replace hP := hP1
  replace hS := hS1
  clear hP1 hS1
  refine lv_if_eq (tgt := 16) hx hb dX9_first_4 (by decide) (fun c2 => ?_) (fun c2 => ?_)
  · have c2 := zz_eqT c2
    refine lv_aload_n hx hb dX9_first_16 rfl (lv_at hl 0 rfl) ?_
    refine lv_ldc (v := (-1000000001)) hx hb hown (hts (.constant RX9 93 (-1000000001)) (List.mem_cons_of_mem _ bm_138)) dX9_first_17 ?_
    refine zz_callVi (As := [.int (-1000000001)]) (rest := []) ⟨hx, hb, hml, hown, hts⟩ hK hP hS (c_X9_error l E σ h0 (-1000000001) g0 (by omega)) (cwV 1 hts gX9_first_X9_error rfl rfl rfl (by decide +kernel) ⟨Nat.le_of_ble_eq_true rfl, Nat.le_of_ble_eq_true rfl⟩) (g0.1) rfl rfl hl.1 rfl (Nat.le_of_ble_eq_true rfl) dX9_first_19 ⟨Nat.zero_le _, Nat.zero_le _⟩ (fun r3 σ3 H locs q3 hP1 hS1 => ?_)
    replace hP := hP1
    replace hS := hS1
    clear hP1 hS1
    try dsimp only at q3
    obtain ⟨w3, f3⟩ := q3
    replace hC := hC.tr (w3.mono (dS23_1 h0))
    replace t0 : σ3 (h0 + 1) 2 = σ (h0 + 1) 2 := (w3 (h0 + 1) 2 (dS23_2 h0)).trans t0
    replace t1 : σ3 (h0 + 1) 3 = σ (h0 + 1) 3 := (w3 (h0 + 1) 3 (dS23_2 h0)).trans t1
    replace t2 : σ3 (h0 + 1) 0 = σ (h0 + 1) 0 := (w3 (h0 + 1) 0 (dS23_2 h0)).trans t2
    exact zz_iret hx hb hr hlocks hK hP hS dX9_first_22 (by exact ⟨hC, Or.inl ⟨by omega, by omega⟩⟩)
  · have c2 := zz_neT c2
    refine lv_iload_n hx hb dX9_first_7 rfl (lv_at hl 2 rfl) ?_
    refine lv_iconst (v := (-1)) hx hb dX9_first_8 (by decide) ?_
    refine lv_iconst (v := 1) hx hb dX9_first_9 (by decide) ?_
    refine zz_callSp (As := [.int ru, .int (-1), .int 1]) (rest := []) ⟨hx, hb, hml, hown, hts⟩ hK hP hS (c_X9_in l E σ ru (-1) 1) (va_cwS 3 hts gX9_first_X9_in rfl rfl rfl (by decide +kernel) ⟨Nat.le_of_ble_eq_true rfl, Nat.le_of_ble_eq_true rfl⟩) rfl hl.1 rfl (Nat.le_of_ble_eq_true rfl) dX9_first_10 ⟨Nat.zero_le _, Nat.zero_le _⟩ (fun r4 H locs f4 hP1 hS1 => ?_)
    replace hP := hP1
    replace hS := hS1
    clear hP1 hS1
    refine lv_if_ne (tgt := 23) hx hb dX9_first_13 (by decide) (fun c5 => ?_) (fun c5 => ?_)
    · have c5 := zz_neT c5
      have J55 : ∀ (iz : Int32) (σz : zz_S) (H : Heap) (locs : List Loc) (ls : Array Slot),  (zz_ch (fun a k => (a = h0 + 3 ∨ (h0 + 7 ≤ a ∧ a ≤ h0 + 11))) σ σz) → (0 ≤ iz.toInt ∧ iz.toInt ≤ 241) → ((iz.toInt = 241 ∧ X9 = -1000000002) ∨ (iz.toInt ≤ 240 ∧ X9 = iz.toInt)) → (σz (h0 + 1) 2 = σ (h0 + 1) 2) → (σz (h0 + 1) 3 = σ (h0 + 1) 3) → (σz (h0 + 1) 0 = σ (h0 + 1) 0) → zz_P E σz H → va_S (zz_A E) s.heap H locs → lv_has ls 4 [(0, .ref h0), (1, .int mt), (2, .int ru), (3, .int iz)] → W p l e (headSpec wzX9_first ({ frames := 6, cells := 0, slots := 0, locals := 144 })).room s m args below meth c H locs 0 0 (MQ below (va_Qi (fun r σ1 => zz_ch (fun a k => (a = h0 + 3 ∨ (h0 + 7 ≤ a ∧ a ≤ h0 + 11))) σ σ1 ∧ (zy_p21 K (σ (h0 + 1) 0).toInt mt.toInt ru.toInt r)) (zz_B E) (zz_A E)) args s 0 0 (zz_A E)) (F0 m 55 ls []) := by
        intro iz σz H locs ls hC f55_0 f55_1 t0 t1 t2 hP hS hl
        refine lv_iload_n hx hb dX9_first_55 rfl (lv_at hl 3 rfl) ?_
        refine lv_sipush (v := 240) hx hb dX9_first_56 (by decide) ?_
        refine lv_icmp_le (tgt := 71) hx hb dX9_first_59 (by decide) (fun c6 => ?_) (fun c6 => ?_)
        · have c6 := zz_leT c6
          refine lv_iload_n hx hb dX9_first_71 rfl (lv_at hl 3 rfl) ?_
          exact zz_iret hx hb hr hlocks hK hP hS dX9_first_72 (by exact ⟨hC, Or.inr ⟨by omega, (show iz.toInt = X9 by omega).trans (show _ = X9 from hX9).symm⟩⟩)
        · have c6 := zz_nleT c6
          refine lv_aload_n hx hb dX9_first_62 rfl (lv_at hl 0 rfl) ?_
          refine lv_ldc (v := (-1000000002)) hx hb hown (hts (.constant RX9 198 (-1000000002)) (List.mem_cons_of_mem _ bm_687)) dX9_first_63 ?_
          refine zz_callVi (As := [.int (-1000000002)]) (rest := []) ⟨hx, hb, hml, hown, hts⟩ hK hP hS (c_X9_error l E σz h0 (-1000000002) g0 (by omega)) (cwV 1 hts gX9_first_X9_error rfl rfl rfl (by decide +kernel) ⟨Nat.le_of_ble_eq_true rfl, Nat.le_of_ble_eq_true rfl⟩) (g0.1) rfl rfl hl.1 rfl (Nat.le_of_ble_eq_true rfl) dX9_first_65 ⟨Nat.zero_le _, Nat.zero_le _⟩ (fun r7 σ7 H locs q7 hP1 hS1 => ?_)
          replace hP := hP1
          replace hS := hS1
          clear hP1 hS1
          try dsimp only at q7
          obtain ⟨w7, f7⟩ := q7
          replace hC := hC.tr (w7.mono (dS23_1 h0))
          try simp only [t0, t1, t2] at f7
          replace t0 : σ7 (h0 + 1) 2 = σ (h0 + 1) 2 := (w7 (h0 + 1) 2 (dS23_2 h0)).trans t0
          replace t1 : σ7 (h0 + 1) 3 = σ (h0 + 1) 3 := (w7 (h0 + 1) 3 (dS23_2 h0)).trans t1
          replace t2 : σ7 (h0 + 1) 0 = σ (h0 + 1) 0 := (w7 (h0 + 1) 0 (dS23_2 h0)).trans t2
          refine lv_goto (tgt := 72) hx hb dX9_first_68 (by decide) ?_
          exact zz_iret hx hb hr hlocks hK hP hS dX9_first_72 (by exact ⟨hC, Or.inr ⟨by omega, (show r7.toInt = X9 by omega).trans (show _ = X9 from hX9).symm⟩⟩)
      refine lv_iconst (v := 0) hx hb dX9_first_23 (by decide) ?_
      refine lv_istore_n (lv' := [(3, .int 0), (0, .ref h0), (1, .int mt), (2, .int ru)]) hx hb dX9_first_24 rfl hl (by decide) rfl (fun ls hl => ?_)
      have J25 : ∀ (n : Nat) (ii : Int32) (σa : zz_S) (H : Heap) (locs : List Loc) (ls : Array Slot), ((241 - ii.toInt).toNat) < n → (zz_ch (fun a k => (a = h0 + 3 ∨ (h0 + 7 ≤ a ∧ a ≤ h0 + 11))) σ σa) → (0 ≤ ii.toInt ∧ ii.toInt ≤ 241) → (zz_hid (zy_fi (fun i => zy_u K ((σ (h0 + 1) 0).toInt + (i : Int)) mt.toInt = ru.toInt) (241 - ii.toInt.toNat) ii.toInt.toNat = X9)) → (σa (h0 + 1) 2 = σ (h0 + 1) 2) → (σa (h0 + 1) 3 = σ (h0 + 1) 3) → (σa (h0 + 1) 0 = σ (h0 + 1) 0) → zz_P E σa H → va_S (zz_A E) s.heap H locs → lv_has ls 4 [(3, .int ii), (0, .ref h0), (1, .int mt), (2, .int ru)] → W p l e (headSpec wzX9_first ({ frames := 6, cells := 0, slots := 0, locals := 144 })).room s m args below meth c H locs 0 0 (MQ below (va_Qi (fun r σ1 => zz_ch (fun a k => (a = h0 + 3 ∨ (h0 + 7 ≤ a ∧ a ≤ h0 + 11))) σ σ1 ∧ (zy_p21 K (σ (h0 + 1) 0).toInt mt.toInt ru.toInt r)) (zz_B E) (zz_A E)) args s 0 0 (zz_A E)) (F0 m 25 ls []) := by
        intro n
        induction n with
        | zero => intro ii σa H locs ls hm; exact absurd hm (Nat.not_lt_zero _)
        | succ n ih25 =>
          intro ii σa H locs ls hm hC f25_0 f25_1 t0 t1 t2 hP hS hl
          refine lv_iload_n hx hb dX9_first_25 rfl (lv_at hl 0 rfl) ?_
          refine lv_sipush (v := 240) hx hb dX9_first_26 (by decide) ?_
          refine lv_icmp_gt (tgt := 55) hx hb dX9_first_29 (by decide) (fun c8 => ?_) (fun c8 => ?_)
          · have c8 := zz_ltT c8
            exact J55 ii σa _ _ _ hC (by first | omega | exact hI | exact hT) (by have g := zy_fi_end f25_1 (by omega); exact Or.inl ⟨by omega, by omega⟩) t0 t1 t2 hP hS (lv_sub hl [1, 2, 3, 0] rfl)
          · have c8 := zz_nltT c8
            refine lv_aload_n hx hb dX9_first_32 rfl (lv_at hl 1 rfl) ?_
            refine lv_iload_n hx hb dX9_first_33 rfl (lv_at hl 2 rfl) ?_
            refine lv_aload_n hx hb dX9_first_34 rfl (lv_at hl 1 rfl) ?_
            refine zz_getr hx hb hts hi9 hown hK hP (g0.1) rfl 0 (by decide) (hts (.fieldLink RX9 9 "NoonLawModel" "row" "[I") (List.mem_cons_of_mem _ bm_93)) rfl rfl dX9_first_35 ?_
            refine lv_iconst (v := 0) hx hb dX9_first_38 (by decide) ?_
            refine zz_ialc hx hb hK hP (g0.2.1) 0 (by decide) (by decide) t2 dX9_first_39 ?_
            refine lv_iload_n hx hb dX9_first_40 rfl (lv_at hl 0 rfl) ?_
            refine lv_iadd hx hb dX9_first_41 ?_
            refine lv_topi (fun n10 e10 => ?_)
            have f10 : n10.toInt = (σ (h0 + 1) 0).toInt + (ii).toInt := zz_addT e10 (by omega) (by omega)
            refine zz_callVi (As := [.int mt, .int n10]) (rest := []) ⟨hx, hb, hml, hown, hts⟩ hK hP hS (c_X9_underAt l E σa h0 mt n10 g0 (by first | omega | exact hI | exact hT) (by exact hI.keep (fun k => hC _ _ (by first | (dsimp only; omega) | omega))) K (by exact hW.keep (fun k q => hC _ _ (by first | (dsimp only; omega) | omega)))) (cwV 2 hts gX9_first_X9_underAt rfl rfl rfl (by decide +kernel) ⟨Nat.le_of_ble_eq_true rfl, Nat.le_of_ble_eq_true rfl⟩) (g0.1) rfl rfl hl.1 rfl (Nat.le_of_ble_eq_true rfl) dX9_first_42 ⟨Nat.zero_le _, Nat.zero_le _⟩ (fun r11 σ11 H locs q11 hP1 hS1 => ?_)
            replace hP := hP1
            replace hS := hS1
            clear hP1 hS1
            try dsimp only at q11
            obtain ⟨w11, f11⟩ := q11
            replace hC := hC.tr (w11.mono (dS23_3 h0))
            try simp only [t0, t1, t2] at f11
            replace t0 : σ11 (h0 + 1) 2 = σ (h0 + 1) 2 := (w11 (h0 + 1) 2 (dS23_4 h0)).trans t0
            replace t1 : σ11 (h0 + 1) 3 = σ (h0 + 1) 3 := (w11 (h0 + 1) 3 (dS23_4 h0)).trans t1
            replace t2 : σ11 (h0 + 1) 0 = σ (h0 + 1) 0 := (w11 (h0 + 1) 0 (dS23_4 h0)).trans t2
            have hu9 : zy_u K ((σ (h0 + 1) 0).toInt + ((ii.toInt.toNat : Nat) : Int)) mt.toInt = r11.toInt := by rw [f11]; exact congrArg (fun q => zy_u K q mt.toInt) (by omega)
            refine lv_iload_n hx hb dX9_first_45 rfl (lv_at hl 3 rfl) ?_
            refine lv_icmp_eq (tgt := 55) hx hb dX9_first_46 (by decide) (fun c12 => ?_) (fun c12 => ?_)
            · have c12 := zz_eqT c12
              exact J55 ii σ11 _ _ _ hC (by first | omega | exact hI | exact hT) (by have g := zy_fi_hit (P := (fun i => zy_u K ((σ (h0 + 1) 0).toInt + (i : Int)) mt.toInt = ru.toInt)) (show zy_u K ((σ (h0 + 1) 0).toInt + ((ii.toInt.toNat : Nat) : Int)) mt.toInt = ru.toInt by rw [hu9]; omega) f25_1 (by omega); exact Or.inr ⟨by omega, by omega⟩) t0 t1 t2 hP hS (lv_sub hl [1, 2, 3, 0] rfl)
            · have c12 := zz_neT c12
              obtain ⟨n13, e13⟩ : ∃ y : Int32, y = ii + 1 := ⟨_, rfl⟩
              have f13 : n13.toInt = (ii).toInt + (1) := by have h9 := zz_addT e13 (by omega) (by omega); omega
              refine lv_iinc (v := n13) (lv' := [(3, .int n13), (0, .ref h0), (1, .int mt), (2, .int ru)]) hx hb dX9_first_49 hl (k := 0) rfl (by rw [e13]; rfl) (by decide) rfl (fun ls hl => ?_)
              refine lv_goto (tgt := 25) hx hb dX9_first_52 (by decide) ?_
              exact ih25 n13 σ11 _ _ _ (by omega) hC (by first | omega | exact hI | exact hT) (by exact zy_fi_go (P := (fun i => zy_u K ((σ (h0 + 1) 0).toInt + (i : Int)) mt.toInt = ru.toInt)) (show ¬ (zy_u K ((σ (h0 + 1) 0).toInt + ((ii.toInt.toNat : Nat) : Int)) mt.toInt = ru.toInt) by rw [hu9]; omega) f25_1 (by omega) (by omega)) t0 t1 t2 hP hS (lv_sub hl [0, 1, 2, 3] rfl)
      exact J25 _ 0 σ _ _ _ (Nat.lt_succ_self _) hC (by first | omega | exact hI | exact hT) (by exact (zy_fi_0 (by omega)).trans hX9) t0 t1 t2 hP hS (lv_sub hl [0, 1, 2, 3] rfl)
    · have c5 := zz_eqT c5
      refine lv_aload_n hx hb dX9_first_16 rfl (lv_at hl 0 rfl) ?_
      refine lv_ldc (v := (-1000000001)) hx hb hown (hts (.constant RX9 93 (-1000000001)) (List.mem_cons_of_mem _ bm_138)) dX9_first_17 ?_
      refine zz_callVi (As := [.int (-1000000001)]) (rest := []) ⟨hx, hb, hml, hown, hts⟩ hK hP hS (c_X9_error l E σ h0 (-1000000001) g0 (by omega)) (cwV 1 hts gX9_first_X9_error rfl rfl rfl (by decide +kernel) ⟨Nat.le_of_ble_eq_true rfl, Nat.le_of_ble_eq_true rfl⟩) (g0.1) rfl rfl hl.1 rfl (Nat.le_of_ble_eq_true rfl) dX9_first_19 ⟨Nat.zero_le _, Nat.zero_le _⟩ (fun r14 σ14 H locs q14 hP1 hS1 => ?_)
      replace hP := hP1
      replace hS := hS1
      clear hP1 hS1
      try dsimp only at q14
      obtain ⟨w14, f14⟩ := q14
      replace hC := hC.tr (w14.mono (dS23_1 h0))
      replace t0 : σ14 (h0 + 1) 2 = σ (h0 + 1) 2 := (w14 (h0 + 1) 2 (dS23_2 h0)).trans t0
      replace t1 : σ14 (h0 + 1) 3 = σ (h0 + 1) 3 := (w14 (h0 + 1) 3 (dS23_2 h0)).trans t1
      replace t2 : σ14 (h0 + 1) 0 = σ (h0 + 1) 0 := (w14 (h0 + 1) 0 (dS23_2 h0)).trans t2
      exact zz_iret hx hb hr hlocks hK hP hS dX9_first_22 (by exact ⟨hC, Or.inl ⟨by omega, by omega⟩⟩)
theorem gX9_siestas_X9_in : GoodIn wzX9_siestas (va_wsS RX9 47 yX9_in wzX9_in) := wz_co bm_143 (wz_co bm_144 (wz_co bm_5 (wz_in bm_145)))
theorem gX9_siestas_X9_error : GoodIn wzX9_siestas (wsV RX9 94 RX9 yX9_error wzX9_error) := wz_co bm_146 (wz_co bm_147 (wz_co bm_148 (wz_co bm_5 (wz_in bm_149))))
theorem gX9_siestas_X9_disputes : GoodIn wzX9_siestas (wsV RX9 195 RX9 yX9_disputes wzX9_disputes) := wz_co bm_666 (wz_co bm_667 (wz_co bm_668 (wz_co bm_5 (wz_in bm_669))))
set_option maxHeartbeats 4000000 in
set_option maxRecDepth 100000 in
theorem c_X9_siestas (l : Launch) (E : zz_E) (σ : zz_S) (h0 : Nat) (nn : Int32) (g0 : zz_M E h0) (hJ : zz_IM σ h0) (K : zy_W) (hW : zy_YW σ (h0 + 1) K) : Met l yX9_siestas wzX9_siestas ({ frames := 6, cells := 0, slots := 0, locals := 143 }) (va_Pc [.ref h0, .int nn] (zz_B E σ)) (va_Qi (fun r σ1 => zz_ch (fun a k => (a = h0 + 3 ∨ (h0 + 7 ≤ a ∧ a ≤ h0 + 11))) σ σ1 ∧ (zy_p22 K (σ (h0 + 1) 0).toInt nn.toInt r)) (zz_B E) (zz_A E)) 0 0 (zz_A E) := by
  refine zz_met (cc := cX9_siestas) (maxL := 4) (ret := (some .int)) (by decide) rfl (Nat.le_of_ble_eq_true rfl) ?_
  intro p e s m args below meth c ls hx hb hr hts hown hlocks hml hK hP hS hl
  have hl : lv_has ls 4 [(0, .ref h0), (1, .int nn)] := hl
  have hown : s.vm.findClass RX9 = some m.cls := hown
  have hi9 : ∀ w ∈ wsX90, w ∈ wzX9_siestas := fun w h => List.mem_cons_of_mem _ (hbw9 w h)
  have k_m1000000001 : ((-1000000001) : Int32).toInt = -1000000001 := by decide +kernel
  have k_0 : (0 : Int32).toInt = 0 := by decide +kernel
  have k_1 : (1 : Int32).toInt = 1 := by decide +kernel
  have k_240 : (240 : Int32).toInt = 240 := by decide +kernel
  replace t0 : σ (h0 + 1) 2 = σ (h0 + 1) 2 := rfl
  replace t1 : σ (h0 + 1) 3 = σ (h0 + 1) 3 := rfl
  replace t2 : σ (h0 + 1) 0 = σ (h0 + 1) 0 := rfl
  have hC : zz_ch (fun a k => (a = h0 + 3 ∨ (h0 + 7 ≤ a ∧ a ≤ h0 + 11))) σ σ := zz_ch.rf σ
  have hI := hJ.1
  obtain ⟨hh, hsl, hd, hp, htc, hwc, hM, hT⟩ := id hI
  have hz5 := hJ.2.2.1
  have htr := hJ.2.2.2
  have hct := hW.2.1
  refine lv_iload_n hx hb dX9_siestas_0 rfl (lv_at hl 1 rfl) ?_
  refine lv_iconst (v := 0) hx hb dX9_siestas_1 (by decide) ?_
  refine lv_sipush (v := 240) hx hb dX9_siestas_2 (by decide) ?_
  refine zz_callSp (As := [.int nn, .int 0, .int 240]) (rest := []) ⟨hx, hb, hml, hown, hts⟩ hK hP hS (c_X9_in l E σ nn 0 240) (va_cwS 3 hts gX9_siestas_X9_in rfl rfl rfl (by decide +kernel) ⟨Nat.le_of_ble_eq_true rfl, Nat.le_of_ble_eq_true rfl⟩) rfl hl.1 rfl (Nat.le_of_ble_eq_true rfl) dX9_siestas_5 ⟨Nat.zero_le _, Nat.zero_le _⟩ (fun r1 H locs f1 hP1 hS1 => ?_)
  replace hP := hP1
  replace hS := hS1
  clear hP1 hS1
  refine lv_if_ne (tgt := 18) hx hb dX9_siestas_8 (by decide) (fun c2 => ?_) (fun c2 => ?_)
  · have c2 := zz_neT c2
    refine lv_iconst (v := 0) hx hb dX9_siestas_18 (by decide) ?_
    refine lv_istore_n (lv' := [(2, .int 0), (0, .ref h0), (1, .int nn)]) hx hb dX9_siestas_19 rfl hl (by decide) rfl (fun ls hl => ?_)
    refine lv_iconst (v := 0) hx hb dX9_siestas_20 (by decide) ?_
    refine lv_istore_n (lv' := [(3, .int 0), (2, .int 0), (0, .ref h0), (1, .int nn)]) hx hb dX9_siestas_21 rfl hl (by decide) rfl (fun ls hl => ?_)
    have J22 : ∀ (n : Nat) (fd : Int32) (ii : Int32) (σa : zz_S) (H : Heap) (locs : List Loc) (ls : Array Slot), ((241 - ii.toInt).toNat) < n → (zz_ch (fun a k => (a = h0 + 3 ∨ (h0 + 7 ≤ a ∧ a ≤ h0 + 11))) σ σa) → (0 ≤ ii.toInt ∧ ii.toInt ≤ nn.toInt) → (fd.toInt = zy_cn (fun i => 0 < zy_nd K ((σ (h0 + 1) 0).toInt + (i : Int))) ii.toInt.toNat) → (σa (h0 + 1) 2 = σ (h0 + 1) 2) → (σa (h0 + 1) 3 = σ (h0 + 1) 3) → (σa (h0 + 1) 0 = σ (h0 + 1) 0) → zz_P E σa H → va_S (zz_A E) s.heap H locs → lv_has ls 4 [(3, .int ii), (2, .int fd), (0, .ref h0), (1, .int nn)] → W p l e (headSpec wzX9_siestas ({ frames := 6, cells := 0, slots := 0, locals := 143 })).room s m args below meth c H locs 0 0 (MQ below (va_Qi (fun r σ1 => zz_ch (fun a k => (a = h0 + 3 ∨ (h0 + 7 ≤ a ∧ a ≤ h0 + 11))) σ σ1 ∧ (zy_p22 K (σ (h0 + 1) 0).toInt nn.toInt r)) (zz_B E) (zz_A E)) args s 0 0 (zz_A E)) (F0 m 22 ls []) := by
      intro n
      induction n with
      | zero => intro fd ii σa H locs ls hm; exact absurd hm (Nat.not_lt_zero _)
      | succ n ih22 =>
        intro fd ii σa H locs ls hm hC f22_0 f22_1 t0 t1 t2 hP hS hl
        have hcr := zy_cn_rng (fun i => 0 < zy_nd K ((σ (h0 + 1) 0).toInt + (i : Int))) ii.toInt.toNat
        refine lv_iload_n hx hb dX9_siestas_22 rfl (lv_at hl 0 rfl) ?_
        refine lv_iload_n hx hb dX9_siestas_23 rfl (lv_at hl 3 rfl) ?_
        refine lv_icmp_ge (tgt := 56) hx hb dX9_siestas_24 (by decide) (fun c3 => ?_) (fun c3 => ?_)
        · have c3 := zz_leT c3
          refine lv_iload_n hx hb dX9_siestas_56 rfl (lv_at hl 1 rfl) ?_
          exact zz_iret hx hb hr hlocks hK hP hS dX9_siestas_57 (by exact ⟨hC, Or.inr ⟨by omega, by rw [f22_1, show ii.toInt.toNat = nn.toInt.toNat from by omega]⟩⟩)
        · have c3 := zz_nleT c3
          refine lv_iload_n hx hb dX9_siestas_27 rfl (lv_at hl 1 rfl) ?_
          refine lv_aload_n hx hb dX9_siestas_28 rfl (lv_at hl 2 rfl) ?_
          refine lv_aload_n hx hb dX9_siestas_29 rfl (lv_at hl 2 rfl) ?_
          refine zz_getr hx hb hts hi9 hown hK hP (g0.1) rfl 0 (by decide) (hts (.fieldLink RX9 9 "NoonLawModel" "row" "[I") (List.mem_cons_of_mem _ bm_93)) rfl rfl dX9_siestas_30 ?_
          refine lv_iconst (v := 0) hx hb dX9_siestas_33 (by decide) ?_
          refine zz_ialc hx hb hK hP (g0.2.1) 0 (by decide) (by decide) t2 dX9_siestas_34 ?_
          refine lv_iload_n hx hb dX9_siestas_35 rfl (lv_at hl 0 rfl) ?_
          refine lv_iadd hx hb dX9_siestas_36 ?_
          refine lv_topi (fun n5 e5 => ?_)
          have f5 : n5.toInt = (σ (h0 + 1) 0).toInt + (ii).toInt := zz_addT e5 (by omega) (by omega)
          refine zz_callVi (As := [.int n5]) (rest := [.int fd]) ⟨hx, hb, hml, hown, hts⟩ hK hP hS (c_X9_disputes l E σa h0 n5 g0 (by first | omega | exact hI | exact hT) (by exact hI.keep (fun k => hC _ _ (by first | (dsimp only; omega) | omega))) K (by exact hW.keep (fun k q => hC _ _ (by first | (dsimp only; omega) | omega)))) (cwV 1 hts gX9_siestas_X9_disputes rfl rfl rfl (by decide +kernel) ⟨Nat.le_of_ble_eq_true rfl, Nat.le_of_ble_eq_true rfl⟩) (g0.1) rfl rfl hl.1 rfl (Nat.le_of_ble_eq_true rfl) dX9_siestas_37 ⟨Nat.zero_le _, Nat.zero_le _⟩ (fun r6 σ6 H locs q6 hP1 hS1 => ?_)
          replace hP := hP1
          replace hS := hS1
          clear hP1 hS1
          try dsimp only at q6
          obtain ⟨w6, f6⟩ := q6
          replace hC := hC.tr (w6.mono (dS23_3 h0))
          try simp only [t0, t1, t2] at f6
          replace t0 : σ6 (h0 + 1) 2 = σ (h0 + 1) 2 := (w6 (h0 + 1) 2 (dS23_4 h0)).trans t0
          replace t1 : σ6 (h0 + 1) 3 = σ (h0 + 1) 3 := (w6 (h0 + 1) 3 (dS23_4 h0)).trans t1
          replace t2 : σ6 (h0 + 1) 0 = σ (h0 + 1) 0 := (w6 (h0 + 1) 0 (dS23_4 h0)).trans t2
          have hd9 := f6
          rw [show n5.toInt = (σ (h0 + 1) 0).toInt + ((ii.toInt.toNat : Nat) : Int) from by omega] at hd9
          refine lv_if_le (tgt := 47) hx hb dX9_siestas_40 (by decide) (fun c7 => ?_) (fun c7 => ?_)
          · have c7 := zz_leT c7
            refine lv_iconst (v := 0) hx hb dX9_siestas_47 (by decide) ?_
            refine lv_iadd hx hb dX9_siestas_48 ?_
            refine lv_topi (fun n8 e8 => ?_)
            have f8 : n8.toInt = (fd).toInt + (0 : Int32).toInt := zz_addT e8 (by omega) (by omega)
            refine lv_istore_n (lv' := [(2, .int n8), (3, .int ii), (0, .ref h0), (1, .int nn)]) hx hb dX9_siestas_49 rfl hl (by decide) rfl (fun ls hl => ?_)
            obtain ⟨n9, e9⟩ : ∃ y : Int32, y = ii + 1 := ⟨_, rfl⟩
            have f9 : n9.toInt = (ii).toInt + (1) := by have h9 := zz_addT e9 (by omega) (by omega); omega
            refine lv_iinc (v := n9) (lv' := [(3, .int n9), (2, .int n8), (0, .ref h0), (1, .int nn)]) hx hb dX9_siestas_50 hl (k := 1) rfl (by rw [e9]; rfl) (by decide) rfl (fun ls hl => ?_)
            refine lv_goto (tgt := 22) hx hb dX9_siestas_53 (by decide) ?_
            exact ih22 n8 n9 σ6 _ _ _ (by omega) hC (by first | omega | exact hI | exact hT) (by rw [show n9.toInt.toNat = ii.toInt.toNat + 1 from by omega]; rw [zy_cn_0 (P := (fun i => 0 < zy_nd K ((σ (h0 + 1) 0).toInt + (i : Int)))) (show ¬ (0 < zy_nd K ((σ (h0 + 1) 0).toInt + ((ii.toInt.toNat : Nat) : Int))) from by omega)]; omega) t0 t1 t2 hP hS (lv_sub hl [0, 1, 2, 3] rfl)
          · have c7 := zz_nleT c7
            skip
            refine lv_iconst (v := 1) hx hb dX9_siestas_43 (by decide) ?_
            refine lv_goto (tgt := 48) hx hb dX9_siestas_44 (by decide) ?_
            refine lv_iadd hx hb dX9_siestas_48 ?_
            refine lv_topi (fun n10 e10 => ?_)
            have f10 : n10.toInt = (fd).toInt + (1 : Int32).toInt := zz_addT e10 (by omega) (by omega)
            refine lv_istore_n (lv' := [(2, .int n10), (3, .int ii), (0, .ref h0), (1, .int nn)]) hx hb dX9_siestas_49 rfl hl (by decide) rfl (fun ls hl => ?_)
            obtain ⟨n11, e11⟩ : ∃ y : Int32, y = ii + 1 := ⟨_, rfl⟩
            have f11 : n11.toInt = (ii).toInt + (1) := by have h9 := zz_addT e11 (by omega) (by omega); omega
            refine lv_iinc (v := n11) (lv' := [(3, .int n11), (2, .int n10), (0, .ref h0), (1, .int nn)]) hx hb dX9_siestas_50 hl (k := 1) rfl (by rw [e11]; rfl) (by decide) rfl (fun ls hl => ?_)
            refine lv_goto (tgt := 22) hx hb dX9_siestas_53 (by decide) ?_
            exact ih22 n10 n11 σ6 _ _ _ (by omega) hC (by first | omega | exact hI | exact hT) (by rw [show n11.toInt.toNat = ii.toInt.toNat + 1 from by omega]; rw [zy_cn_1 (P := (fun i => 0 < zy_nd K ((σ (h0 + 1) 0).toInt + (i : Int)))) (show 0 < zy_nd K ((σ (h0 + 1) 0).toInt + ((ii.toInt.toNat : Nat) : Int)) from by omega)]; omega) t0 t1 t2 hP hS (lv_sub hl [0, 1, 2, 3] rfl)
    exact J22 _ 0 0 σ _ _ _ (Nat.lt_succ_self _) hC (by first | omega | exact hI | exact hT) (by rw [show (0 : Int32).toInt.toNat = 0 from by decide, k_0]; rfl) t0 t1 t2 hP hS (lv_sub hl [0, 1, 2, 3] rfl)
  · have c2 := zz_eqT c2
    refine lv_aload_n hx hb dX9_siestas_11 rfl (lv_at hl 0 rfl) ?_
    refine lv_ldc (v := (-1000000001)) hx hb hown (hts (.constant RX9 93 (-1000000001)) (List.mem_cons_of_mem _ bm_138)) dX9_siestas_12 ?_
    refine zz_callVi (As := [.int (-1000000001)]) (rest := []) ⟨hx, hb, hml, hown, hts⟩ hK hP hS (c_X9_error l E σ h0 (-1000000001) g0 (by omega)) (cwV 1 hts gX9_siestas_X9_error rfl rfl rfl (by decide +kernel) ⟨Nat.le_of_ble_eq_true rfl, Nat.le_of_ble_eq_true rfl⟩) (g0.1) rfl rfl hl.1 rfl (Nat.le_of_ble_eq_true rfl) dX9_siestas_14 ⟨Nat.zero_le _, Nat.zero_le _⟩ (fun r12 σ12 H locs q12 hP1 hS1 => ?_)
    replace hP := hP1
    replace hS := hS1
    clear hP1 hS1
    try dsimp only at q12
    obtain ⟨w12, f12⟩ := q12
    replace hC := hC.tr (w12.mono (dS23_1 h0))
    replace t0 : σ12 (h0 + 1) 2 = σ (h0 + 1) 2 := (w12 (h0 + 1) 2 (dS23_2 h0)).trans t0
    replace t1 : σ12 (h0 + 1) 3 = σ (h0 + 1) 3 := (w12 (h0 + 1) 3 (dS23_2 h0)).trans t1
    replace t2 : σ12 (h0 + 1) 0 = σ (h0 + 1) 0 := (w12 (h0 + 1) 0 (dS23_2 h0)).trans t2
    exact zz_iret hx hb hr hlocks hK hP hS dX9_siestas_17 (by exact ⟨hC, Or.inl ⟨by omega, by omega⟩⟩)
theorem gX9_best_X9_in : GoodIn wzX9_best (va_wsS RX9 47 yX9_in wzX9_in) := wz_co bm_143 (wz_co bm_144 (wz_co bm_5 (wz_in bm_145)))
theorem gX9_best_X9_error : GoodIn wzX9_best (wsV RX9 94 RX9 yX9_error wzX9_error) := wz_co bm_146 (wz_co bm_147 (wz_co bm_148 (wz_co bm_5 (wz_in bm_149))))
theorem gX9_best_X9_hoursUnder : GoodIn wzX9_best (wsV RX9 199 RX9 yX9_hoursUnder wzX9_hoursUnder) := wz_co bm_708 (wz_co bm_709 (wz_co bm_710 (wz_co bm_5 (wz_in bm_711))))
set_option maxHeartbeats 4000000 in
set_option maxRecDepth 100000 in
theorem c_X9_best (l : Launch) (E : zz_E) (σ : zz_S) (h0 : Nat) (nn : Int32) (what : Int32) (g0 : zz_M E h0) (hJ : zz_IM σ h0) (K : zy_W) (hW : zy_YW σ (h0 + 1) K) : Met l yX9_best wzX9_best ({ frames := 7, cells := 0, slots := 0, locals := 169 }) (va_Pc [.ref h0, .int nn, .int what] (zz_B E σ)) (va_Qi (fun r σ1 => zz_ch (fun a k => (a = h0 + 3 ∨ (h0 + 7 ≤ a ∧ a ≤ h0 + 11))) σ σ1 ∧ (zy_p23 K (σ (h0 + 1) 0).toInt nn.toInt what.toInt r)) (zz_B E) (zz_A E)) 0 0 (zz_A E) := by
  refine zz_met (cc := cX9_best) (maxL := 8) (ret := (some .int)) (by decide) rfl (Nat.le_of_ble_eq_true rfl) ?_
  intro p e s m args below meth c ls hx hb hr hts hown hlocks hml hK hP hS hl
  have hl : lv_has ls 8 [(0, .ref h0), (1, .int nn), (2, .int what)] := hl
  have hown : s.vm.findClass RX9 = some m.cls := hown
  have k_m1000000001 : ((-1000000001) : Int32).toInt = -1000000001 := by decide +kernel
  have k_0 : (0 : Int32).toInt = 0 := by decide +kernel
  have k_1 : (1 : Int32).toInt = 1 := by decide +kernel
  have k_10 : (10 : Int32).toInt = 10 := by decide +kernel
  have k_240 : (240 : Int32).toInt = 240 := by decide +kernel
  replace t0 : σ (h0 + 1) 2 = σ (h0 + 1) 2 := rfl
  replace t1 : σ (h0 + 1) 3 = σ (h0 + 1) 3 := rfl
  replace t2 : σ (h0 + 1) 0 = σ (h0 + 1) 0 := rfl
  have hC : zz_ch (fun a k => (a = h0 + 3 ∨ (h0 + 7 ≤ a ∧ a ≤ h0 + 11))) σ σ := zz_ch.rf σ
  have hI := hJ.1
  obtain ⟨hh, hsl, hd, hp, htc, hwc, hM, hT⟩ := id hI
  have hz5 := hJ.2.2.1
  have htr := hJ.2.2.2
  have hct := hW.2.1
  refine lv_iload_n hx hb dX9_best_0 rfl (lv_at hl 1 rfl) ?_
  refine lv_iconst (v := 0) hx hb dX9_best_1 (by decide) ?_
  refine lv_sipush (v := 240) hx hb dX9_best_2 (by decide) ?_
  refine zz_callSp (As := [.int nn, .int 0, .int 240]) (rest := []) ⟨hx, hb, hml, hown, hts⟩ hK hP hS (c_X9_in l E σ nn 0 240) (va_cwS 3 hts gX9_best_X9_in rfl rfl rfl (by decide +kernel) ⟨Nat.le_of_ble_eq_true rfl, Nat.le_of_ble_eq_true rfl⟩) rfl hl.1 rfl (Nat.le_of_ble_eq_true rfl) dX9_best_5 ⟨Nat.zero_le _, Nat.zero_le _⟩ (fun r1 H locs f1 hP1 hS1 => ?_)
  replace hP := hP1
  replace hS := hS1
  clear hP1 hS1
  refine lv_if_eq (tgt := 20) hx hb dX9_best_8 (by decide) (fun c2 => ?_) (fun c2 => ?_)
  · have c2 := zz_eqT c2
    refine lv_aload_n hx hb dX9_best_20 rfl (lv_at hl 0 rfl) ?_
    refine lv_ldc (v := (-1000000001)) hx hb hown (hts (.constant RX9 93 (-1000000001)) (List.mem_cons_of_mem _ bm_138)) dX9_best_21 ?_
    refine zz_callVi (As := [.int (-1000000001)]) (rest := []) ⟨hx, hb, hml, hown, hts⟩ hK hP hS (c_X9_error l E σ h0 (-1000000001) g0 (by omega)) (cwV 1 hts gX9_best_X9_error rfl rfl rfl (by decide +kernel) ⟨Nat.le_of_ble_eq_true rfl, Nat.le_of_ble_eq_true rfl⟩) (g0.1) rfl rfl hl.1 rfl (Nat.le_of_ble_eq_true rfl) dX9_best_23 ⟨Nat.zero_le _, Nat.zero_le _⟩ (fun r3 σ3 H locs q3 hP1 hS1 => ?_)
    replace hP := hP1
    replace hS := hS1
    clear hP1 hS1
    try dsimp only at q3
    obtain ⟨w3, f3⟩ := q3
    replace hC := hC.tr (w3.mono (dS23_1 h0))
    replace t0 : σ3 (h0 + 1) 2 = σ (h0 + 1) 2 := (w3 (h0 + 1) 2 (dS23_2 h0)).trans t0
    replace t1 : σ3 (h0 + 1) 3 = σ (h0 + 1) 3 := (w3 (h0 + 1) 3 (dS23_2 h0)).trans t1
    replace t2 : σ3 (h0 + 1) 0 = σ (h0 + 1) 0 := (w3 (h0 + 1) 0 (dS23_2 h0)).trans t2
    exact zz_iret hx hb hr hlocks hK hP hS dX9_best_26 (by exact ⟨hC, Or.inl ⟨by omega, by omega⟩⟩)
  · have c2 := zz_neT c2
    refine lv_iload_n hx hb dX9_best_11 rfl (lv_at hl 2 rfl) ?_
    refine lv_iconst (v := 0) hx hb dX9_best_12 (by decide) ?_
    refine lv_iconst (v := 1) hx hb dX9_best_13 (by decide) ?_
    refine zz_callSp (As := [.int what, .int 0, .int 1]) (rest := []) ⟨hx, hb, hml, hown, hts⟩ hK hP hS (c_X9_in l E σ what 0 1) (va_cwS 3 hts gX9_best_X9_in rfl rfl rfl (by decide +kernel) ⟨Nat.le_of_ble_eq_true rfl, Nat.le_of_ble_eq_true rfl⟩) rfl hl.1 rfl (Nat.le_of_ble_eq_true rfl) dX9_best_14 ⟨Nat.zero_le _, Nat.zero_le _⟩ (fun r4 H locs f4 hP1 hS1 => ?_)
    replace hP := hP1
    replace hS := hS1
    clear hP1 hS1
    refine lv_if_ne (tgt := 27) hx hb dX9_best_17 (by decide) (fun c5 => ?_) (fun c5 => ?_)
    · have c5 := zz_neT c5
      refine lv_iconst (v := 0) hx hb dX9_best_27 (by decide) ?_
      refine lv_istore_n (lv' := [(3, .int 0), (0, .ref h0), (1, .int nn), (2, .int what)]) hx hb dX9_best_28 rfl hl (by decide) rfl (fun ls hl => ?_)
      refine lv_iconst (v := 0) hx hb dX9_best_29 (by decide) ?_
      refine lv_istore (lv' := [(4, .int 0), (3, .int 0), (0, .ref h0), (1, .int nn), (2, .int what)]) hx hb dX9_best_30 hl (by decide) rfl (fun ls hl => ?_)
      refine lv_iconst (v := 0) hx hb dX9_best_32 (by decide) ?_
      refine lv_istore (lv' := [(5, .int 0), (4, .int 0), (3, .int 0), (0, .ref h0), (1, .int nn), (2, .int what)]) hx hb dX9_best_33 hl (by decide) rfl (fun ls hl => ?_)
      have J35 : ∀ (n : Nat) (wo : Int32) (gu : Int32) (ii : Int32) (σa : zz_S) (H : Heap) (locs : List Loc) (ls : Array Slot), ((10 - ii.toInt).toNat) < n → (zz_ch (fun a k => (a = h0 + 3 ∨ (h0 + 7 ≤ a ∧ a ≤ h0 + 11))) σ σa) → (0 ≤ ii.toInt ∧ ii.toInt ≤ 10) → (wo = zy_st (zy_bw K (σ (h0 + 1) 0).toInt nn.toInt.toNat) ii.toInt.toNat) → (gu.toInt = zy_sm (zy_bg K (σ (h0 + 1) 0).toInt nn.toInt.toNat) ii.toInt.toNat) → (σa (h0 + 1) 2 = σ (h0 + 1) 2) → (σa (h0 + 1) 3 = σ (h0 + 1) 3) → (σa (h0 + 1) 0 = σ (h0 + 1) 0) → zz_P E σa H → va_S (zz_A E) s.heap H locs → lv_has ls 8 [(5, .int ii), (4, .int gu), (3, .int wo), (0, .ref h0), (1, .int nn), (2, .int what)] → W p l e (headSpec wzX9_best ({ frames := 7, cells := 0, slots := 0, locals := 169 })).room s m args below meth c H locs 0 0 (MQ below (va_Qi (fun r σ1 => zz_ch (fun a k => (a = h0 + 3 ∨ (h0 + 7 ≤ a ∧ a ≤ h0 + 11))) σ σ1 ∧ (zy_p23 K (σ (h0 + 1) 0).toInt nn.toInt what.toInt r)) (zz_B E) (zz_A E)) args s 0 0 (zz_A E)) (F0 m 35 ls []) := by
        intro n
        induction n with
        | zero => intro wo gu ii σa H locs ls hm; exact absurd hm (Nat.not_lt_zero _)
        | succ n ih35 =>
          intro wo gu ii σa H locs ls hm hC f35_0 f35_1 f35_2 t0 t1 t2 hP hS hl
          have hsr := zy_sm_rng (w := (zy_bg K (σ (h0 + 1) 0).toInt nn.toInt.toNat)) (c := 240) (fun i => ⟨(zy_bg_rng K (σ (h0 + 1) 0).toInt nn.toInt.toNat i).1, by have h9 := (zy_bg_rng K (σ (h0 + 1) 0).toInt nn.toInt.toNat i).2; omega⟩) ii.toInt.toNat
          refine lv_iload hx hb dX9_best_35 (lv_at hl 0 rfl) ?_
          refine lv_bipush (v := 10) hx hb dX9_best_37 (by decide) ?_
          refine lv_icmp_ge (tgt := 105) hx hb dX9_best_39 (by decide) (fun c6 => ?_) (fun c6 => ?_)
          · have c6 := zz_leT c6
            refine lv_iload_n hx hb dX9_best_105 rfl (lv_at hl 5 rfl) ?_
            refine lv_if_ne (tgt := 113) hx hb dX9_best_106 (by decide) (fun c7 => ?_) (fun c7 => ?_)
            · have c7 := zz_neT c7
              refine lv_iload hx hb dX9_best_113 (lv_at hl 1 rfl) ?_
              rw [show ii.toInt.toNat = 10 from by omega] at f35_1 f35_2
              exact zz_iret hx hb hr hlocks hK hP hS dX9_best_115 (by exact ⟨hC, Or.inr (Or.inr ⟨by omega, f35_2⟩)⟩)
            · have c7 := zz_eqT c7
              refine lv_iload_n hx hb dX9_best_109 rfl (lv_at hl 2 rfl) ?_
              refine lv_goto (tgt := 115) hx hb dX9_best_110 (by decide) ?_
              rw [show ii.toInt.toNat = 10 from by omega] at f35_1 f35_2
              exact zz_iret hx hb hr hlocks hK hP hS dX9_best_115 (by exact ⟨hC, Or.inr (Or.inl ⟨by omega, congrArg Int32.toInt f35_1⟩)⟩)
          · have c6 := zz_nleT c6
            refine lv_aload_n hx hb dX9_best_42 rfl (lv_at hl 3 rfl) ?_
            refine lv_iload hx hb dX9_best_43 (lv_at hl 0 rfl) ?_
            refine lv_iconst (v := 0) hx hb dX9_best_45 (by decide) ?_
            refine lv_iload_n hx hb dX9_best_46 rfl (lv_at hl 4 rfl) ?_
            refine zz_callVi (As := [.int ii, .int 0, .int nn]) (rest := []) ⟨hx, hb, hml, hown, hts⟩ hK hP hS (c_X9_hoursUnder l E σa h0 ii 0 nn g0 (by first | omega | exact hI | exact hT) (by exact hI.keep (fun k => hC _ _ (by first | (dsimp only; omega) | omega))) K (by exact hW.keep (fun k q => hC _ _ (by first | (dsimp only; omega) | omega)))) (cwV 3 hts gX9_best_X9_hoursUnder rfl rfl rfl (by decide +kernel) ⟨Nat.le_of_ble_eq_true rfl, Nat.le_of_ble_eq_true rfl⟩) (g0.1) rfl rfl hl.1 rfl (Nat.le_of_ble_eq_true rfl) dX9_best_47 ⟨Nat.zero_le _, Nat.zero_le _⟩ (fun r8 σ8 H locs q8 hP1 hS1 => ?_)
            replace hP := hP1
            replace hS := hS1
            clear hP1 hS1
            try dsimp only at q8
            obtain ⟨w8, f8⟩ := q8
            replace hC := hC.tr (w8.mono (dS23_3 h0))
            try simp only [t0, t1, t2] at f8
            replace t0 : σ8 (h0 + 1) 2 = σ (h0 + 1) 2 := (w8 (h0 + 1) 2 (dS23_4 h0)).trans t0
            replace t1 : σ8 (h0 + 1) 3 = σ (h0 + 1) 3 := (w8 (h0 + 1) 3 (dS23_4 h0)).trans t1
            replace t2 : σ8 (h0 + 1) 0 = σ (h0 + 1) 0 := (w8 (h0 + 1) 0 (dS23_4 h0)).trans t2
            have pa2 : r8.toInt = zy_hu K (σ (h0 + 1) 0).toInt ((ii.toInt.toNat : Nat) : Int) 0 nn.toInt.toNat := by rw [f8, k_0]; exact congrArg (fun q => zy_hu K (σ (h0 + 1) 0).toInt q 0 nn.toInt.toNat) (by omega)
            have pa2r := zy_hu_rng K (σ (h0 + 1) 0).toInt ((ii.toInt.toNat : Nat) : Int) 0 nn.toInt.toNat
            refine lv_istore (lv' := [(6, .int r8), (5, .int ii), (4, .int gu), (3, .int wo), (0, .ref h0), (1, .int nn), (2, .int what)]) hx hb dX9_best_50 hl (by decide) rfl (fun ls hl => ?_)
            refine lv_aload_n hx hb dX9_best_52 rfl (lv_at hl 4 rfl) ?_
            refine lv_iload hx hb dX9_best_53 (lv_at hl 1 rfl) ?_
            refine lv_iconst (v := 1) hx hb dX9_best_55 (by decide) ?_
            refine lv_iload_n hx hb dX9_best_56 rfl (lv_at hl 5 rfl) ?_
            refine zz_callVi (As := [.int ii, .int 1, .int nn]) (rest := []) ⟨hx, hb, hml, hown, hts⟩ hK hP hS (c_X9_hoursUnder l E σ8 h0 ii 1 nn g0 (by first | omega | exact hI | exact hT) (by exact hI.keep (fun k => hC _ _ (by first | (dsimp only; omega) | omega))) K (by exact hW.keep (fun k q => hC _ _ (by first | (dsimp only; omega) | omega)))) (cwV 3 hts gX9_best_X9_hoursUnder rfl rfl rfl (by decide +kernel) ⟨Nat.le_of_ble_eq_true rfl, Nat.le_of_ble_eq_true rfl⟩) (g0.1) rfl rfl hl.1 rfl (Nat.le_of_ble_eq_true rfl) dX9_best_57 ⟨Nat.zero_le _, Nat.zero_le _⟩ (fun r9 σ9 H locs q9 hP1 hS1 => ?_)
            replace hP := hP1
            replace hS := hS1
            clear hP1 hS1
            try dsimp only at q9
            obtain ⟨w9, f9⟩ := q9
            replace hC := hC.tr (w9.mono (dS23_3 h0))
            try simp only [t0, t1, t2] at f9
            replace t0 : σ9 (h0 + 1) 2 = σ (h0 + 1) 2 := (w9 (h0 + 1) 2 (dS23_4 h0)).trans t0
            replace t1 : σ9 (h0 + 1) 3 = σ (h0 + 1) 3 := (w9 (h0 + 1) 3 (dS23_4 h0)).trans t1
            replace t2 : σ9 (h0 + 1) 0 = σ (h0 + 1) 0 := (w9 (h0 + 1) 0 (dS23_4 h0)).trans t2
            have pb2 : r9.toInt = zy_hu K (σ (h0 + 1) 0).toInt ((ii.toInt.toNat : Nat) : Int) 1 nn.toInt.toNat := by rw [f9, k_1]; exact congrArg (fun q => zy_hu K (σ (h0 + 1) 0).toInt q 1 nn.toInt.toNat) (by omega)
            have pb2r := zy_hu_rng K (σ (h0 + 1) 0).toInt ((ii.toInt.toNat : Nat) : Int) 1 nn.toInt.toNat
            refine lv_istore (lv' := [(7, .int r9), (6, .int r8), (5, .int ii), (4, .int gu), (3, .int wo), (0, .ref h0), (1, .int nn), (2, .int what)]) hx hb dX9_best_60 hl (by decide) rfl (fun ls hl => ?_)
            have J78 : ∀ (ad : Int32) (H : Heap) (locs : List Loc) (ls : Array Slot),  ((zy_hu K (σ (h0 + 1) 0).toInt ((ii.toInt.toNat : Nat) : Int) 0 nn.toInt.toNat < zy_hu K (σ (h0 + 1) 0).toInt ((ii.toInt.toNat : Nat) : Int) 1 nn.toInt.toNat ∧ ad = (1 : Int32) <<< (ii &&& 31)) ∨ (¬ (zy_hu K (σ (h0 + 1) 0).toInt ((ii.toInt.toNat : Nat) : Int) 0 nn.toInt.toNat < zy_hu K (σ (h0 + 1) 0).toInt ((ii.toInt.toNat : Nat) : Int) 1 nn.toInt.toNat) ∧ ad = 0)) → zz_P E σ9 H → va_S (zz_A E) s.heap H locs → lv_has ls 8 [(7, .int r9), (6, .int r8), (5, .int ii), (4, .int gu), (3, .int wo), (0, .ref h0), (1, .int nn), (2, .int what)] → W p l e (headSpec wzX9_best ({ frames := 7, cells := 0, slots := 0, locals := 169 })).room s m args below meth c H locs 0 0 (MQ below (va_Qi (fun r σ1 => zz_ch (fun a k => (a = h0 + 3 ∨ (h0 + 7 ≤ a ∧ a ≤ h0 + 11))) σ σ1 ∧ (zy_p23 K (σ (h0 + 1) 0).toInt nn.toInt what.toInt r)) (zz_B E) (zz_A E)) args s 0 0 (zz_A E)) (F0 m 78 ls [.int ad, .int wo]) := by
              intro ad H locs ls f78_0 hP hS hl
              refine lv_ior hx hb dX9_best_78 ?_
              refine lv_topi (fun n10 e10 => ?_)
              have b9s : n10 = zy_st (zy_bw K (σ (h0 + 1) 0).toInt nn.toInt.toNat) (ii.toInt.toNat + 1) := f78_0.elim (fun q => zy_st_in (P := (zy_bw K (σ (h0 + 1) 0).toInt nn.toInt.toNat)) (show zy_hu K (σ (h0 + 1) 0).toInt ((ii.toInt.toNat : Nat) : Int) 0 nn.toInt.toNat < zy_hu K (σ (h0 + 1) 0).toInt ((ii.toInt.toNat : Nat) : Int) 1 nn.toInt.toNat from q.1) f35_1 (i := ii) (by omega) q.2 e10 rfl) (fun q => zy_st_no0 (P := (zy_bw K (σ (h0 + 1) 0).toInt nn.toInt.toNat)) (show ¬ (zy_hu K (σ (h0 + 1) 0).toInt ((ii.toInt.toNat : Nat) : Int) 0 nn.toInt.toNat < zy_hu K (σ (h0 + 1) 0).toInt ((ii.toInt.toNat : Nat) : Int) 1 nn.toInt.toNat) from q.1) f35_1 (by rw [e10, q.2]) rfl)
              refine lv_istore_n (lv' := [(3, .int n10), (7, .int r9), (6, .int r8), (5, .int ii), (4, .int gu), (0, .ref h0), (1, .int nn), (2, .int what)]) hx hb dX9_best_79 rfl hl (by decide) rfl (fun ls hl => ?_)
              refine lv_iload hx hb dX9_best_80 (lv_at hl 4 rfl) ?_
              refine lv_iload hx hb dX9_best_82 (lv_at hl 2 rfl) ?_
              refine lv_iload hx hb dX9_best_84 (lv_at hl 1 rfl) ?_
              refine lv_icmp_ge (tgt := 94) hx hb dX9_best_86 (by decide) (fun c11 => ?_) (fun c11 => ?_)
              · have c11 := zz_leT c11
                refine lv_iload hx hb dX9_best_94 (lv_at hl 1 rfl) ?_
                have hg9 : r9.toInt = (zy_bg K (σ (h0 + 1) 0).toInt nn.toInt.toNat) ii.toInt.toNat := zy_bg_of pa2 pb2 (by omega)
                refine lv_iadd hx hb dX9_best_96 ?_
                refine lv_topi (fun n12 e12 => ?_)
                have f12 : n12.toInt = (gu).toInt + (r9).toInt := zz_addT e12 (by omega) (by omega)
                refine lv_istore (lv' := [(4, .int n12), (3, .int n10), (7, .int r9), (6, .int r8), (5, .int ii), (0, .ref h0), (1, .int nn), (2, .int what)]) hx hb dX9_best_97 hl (by decide) rfl (fun ls hl => ?_)
                obtain ⟨n13, e13⟩ : ∃ y : Int32, y = ii + 1 := ⟨_, rfl⟩
                have f13 : n13.toInt = (ii).toInt + (1) := by have h9 := zz_addT e13 (by omega) (by omega); omega
                refine lv_iinc (v := n13) (lv' := [(5, .int n13), (4, .int n12), (3, .int n10), (7, .int r9), (6, .int r8), (0, .ref h0), (1, .int nn), (2, .int what)]) hx hb dX9_best_99 hl (k := 4) rfl (by rw [e13]; rfl) (by decide) rfl (fun ls hl => ?_)
                refine lv_goto (tgt := 35) hx hb dX9_best_102 (by decide) ?_
                exact ih35 n10 n12 n13 σ9 _ _ _ (by omega) hC (by first | omega | exact hI | exact hT) (by rw [show n13.toInt.toNat = ii.toInt.toNat + 1 from by omega]; exact b9s) (by rw [show n13.toInt.toNat = ii.toInt.toNat + 1 from by omega]; exact zy_sm_s f35_2 hg9 f12 rfl) t0 t1 t2 hP hS (lv_sub hl [0, 1, 2, 5, 6, 7] rfl)
              · have c11 := zz_nleT c11
                refine lv_iload hx hb dX9_best_89 (lv_at hl 2 rfl) ?_
                refine lv_goto (tgt := 96) hx hb dX9_best_91 (by decide) ?_
                have hg9 : r8.toInt = (zy_bg K (σ (h0 + 1) 0).toInt nn.toInt.toNat) ii.toInt.toNat := zy_bg_of pa2 pb2 (by omega)
                refine lv_iadd hx hb dX9_best_96 ?_
                refine lv_topi (fun n14 e14 => ?_)
                have f14 : n14.toInt = (gu).toInt + (r8).toInt := zz_addT e14 (by omega) (by omega)
                refine lv_istore (lv' := [(4, .int n14), (3, .int n10), (7, .int r9), (6, .int r8), (5, .int ii), (0, .ref h0), (1, .int nn), (2, .int what)]) hx hb dX9_best_97 hl (by decide) rfl (fun ls hl => ?_)
                obtain ⟨n15, e15⟩ : ∃ y : Int32, y = ii + 1 := ⟨_, rfl⟩
                have f15 : n15.toInt = (ii).toInt + (1) := by have h9 := zz_addT e15 (by omega) (by omega); omega
                refine lv_iinc (v := n15) (lv' := [(5, .int n15), (4, .int n14), (3, .int n10), (7, .int r9), (6, .int r8), (0, .ref h0), (1, .int nn), (2, .int what)]) hx hb dX9_best_99 hl (k := 4) rfl (by rw [e15]; rfl) (by decide) rfl (fun ls hl => ?_)
                refine lv_goto (tgt := 35) hx hb dX9_best_102 (by decide) ?_
                exact ih35 n10 n14 n15 σ9 _ _ _ (by omega) hC (by first | omega | exact hI | exact hT) (by rw [show n15.toInt.toNat = ii.toInt.toNat + 1 from by omega]; exact b9s) (by rw [show n15.toInt.toNat = ii.toInt.toNat + 1 from by omega]; exact zy_sm_s f35_2 hg9 f14 rfl) t0 t1 t2 hP hS (lv_sub hl [0, 1, 2, 5, 6, 7] rfl)
            refine lv_iload_n hx hb dX9_best_62 rfl (lv_at hl 4 rfl) ?_
            refine lv_iload hx hb dX9_best_63 (lv_at hl 1 rfl) ?_
            refine lv_iload hx hb dX9_best_65 (lv_at hl 0 rfl) ?_
            refine lv_icmp_ge (tgt := 77) hx hb dX9_best_67 (by decide) (fun c16 => ?_) (fun c16 => ?_)
            · have c16 := zz_leT c16
              refine lv_iconst (v := 0) hx hb dX9_best_77 (by decide) ?_
              exact J78 0 _ _ _ (by exact Or.inr ⟨by omega, rfl⟩) hP hS (lv_sub hl [0, 1, 2, 3, 4, 5, 6, 7] rfl)
            · have c16 := zz_nleT c16
              refine lv_iconst (v := 1) hx hb dX9_best_70 (by decide) ?_
              refine lv_iload hx hb dX9_best_71 (lv_at hl 2 rfl) ?_
              refine lv_ishl hx hb dX9_best_73 ?_
              refine lv_topi (fun n17 e17 => ?_)
              refine lv_goto (tgt := 78) hx hb dX9_best_74 (by decide) ?_
              exact J78 n17 _ _ _ (by exact Or.inl ⟨by omega, e17⟩) hP hS (lv_sub hl [0, 1, 2, 3, 4, 5, 6, 7] rfl)
      exact J35 _ 0 0 0 σ _ _ _ (Nat.lt_succ_self _) hC (by first | omega | exact hI | exact hT) (by rw [show (0 : Int32).toInt.toNat = 0 from by decide]; rfl) (by rw [show (0 : Int32).toInt.toNat = 0 from by decide, k_0]; rfl) t0 t1 t2 hP hS (lv_sub hl [0, 1, 2, 3, 4, 5] rfl)
    · have c5 := zz_eqT c5
      refine lv_aload_n hx hb dX9_best_20 rfl (lv_at hl 0 rfl) ?_
      refine lv_ldc (v := (-1000000001)) hx hb hown (hts (.constant RX9 93 (-1000000001)) (List.mem_cons_of_mem _ bm_138)) dX9_best_21 ?_
      refine zz_callVi (As := [.int (-1000000001)]) (rest := []) ⟨hx, hb, hml, hown, hts⟩ hK hP hS (c_X9_error l E σ h0 (-1000000001) g0 (by omega)) (cwV 1 hts gX9_best_X9_error rfl rfl rfl (by decide +kernel) ⟨Nat.le_of_ble_eq_true rfl, Nat.le_of_ble_eq_true rfl⟩) (g0.1) rfl rfl hl.1 rfl (Nat.le_of_ble_eq_true rfl) dX9_best_23 ⟨Nat.zero_le _, Nat.zero_le _⟩ (fun r18 σ18 H locs q18 hP1 hS1 => ?_)
      replace hP := hP1
      replace hS := hS1
      clear hP1 hS1
      try dsimp only at q18
      obtain ⟨w18, f18⟩ := q18
      replace hC := hC.tr (w18.mono (dS23_1 h0))
      replace t0 : σ18 (h0 + 1) 2 = σ (h0 + 1) 2 := (w18 (h0 + 1) 2 (dS23_2 h0)).trans t0
      replace t1 : σ18 (h0 + 1) 3 = σ (h0 + 1) 3 := (w18 (h0 + 1) 3 (dS23_2 h0)).trans t1
      replace t2 : σ18 (h0 + 1) 0 = σ (h0 + 1) 0 := (w18 (h0 + 1) 0 (dS23_2 h0)).trans t2
      exact zz_iret hx hb hr hlocks hK hP hS dX9_best_26 (by exact ⟨hC, Or.inl ⟨by omega, by omega⟩⟩)
theorem gX9_fewest_X9_isMatter : GoodIn wzX9_fewest (va_wsS RX9 189 yX9_isMatter wzX9_isMatter) := wz_co bm_646 (wz_co bm_647 (wz_co bm_5 (wz_in bm_648)))
theorem gX9_fewest_X9_in : GoodIn wzX9_fewest (va_wsS RX9 47 yX9_in wzX9_in) := wz_co bm_143 (wz_co bm_144 (wz_co bm_5 (wz_in bm_145)))
theorem gX9_fewest_X9_error : GoodIn wzX9_fewest (wsV RX9 94 RX9 yX9_error wzX9_error) := wz_co bm_146 (wz_co bm_147 (wz_co bm_148 (wz_co bm_5 (wz_in bm_149))))
theorem gX9_fewest_X9_dreamsOf : GoodIn wzX9_fewest (wsV RX9 202 RX9 yX9_dreamsOf wzX9_dreamsOf) := wz_co bm_736 (wz_co bm_737 (wz_co bm_738 (wz_co bm_5 (wz_in bm_739))))
theorem gX9_fewest_X9_findWeights : GoodIn wzX9_fewest (wsV RX9 205 RX9 yX9_findWeights wzX9_findWeights) := wz_co bm_740 (wz_co bm_741 (wz_co bm_742 (wz_co bm_5 (wz_in bm_743))))
theorem gX9_fewest_X9_bits : GoodIn wzX9_fewest (va_wsS RX9 82 yX9_bits wzX9_bits) := wz_co bm_401 (wz_co bm_402 (wz_co bm_5 (wz_in bm_403)))
theorem gX9_fewest_X9_isFreeBy : GoodIn wzX9_fewest (wsV RX9 208 RX9 yX9_isFreeBy wzX9_isFreeBy) := wz_co bm_744 (wz_co bm_745 (wz_co bm_746 (wz_co bm_5 (wz_in bm_747))))
theorem dS23_5 (x0 : Nat) : ∀ a k : Nat, (a = (x0) + 9 ∨ a = (x0) + 10 ∨ a = (x0) + 11) → ((a = x0 + 3 ∨ (x0 + 7 ≤ a ∧ a ≤ x0 + 11))) := by intro a k h; omega
theorem dS23_6 (x0 : Nat) : ¬ ((x0 + 1) = (x0) + 9 ∨ (x0 + 1) = (x0) + 10 ∨ (x0 + 1) = (x0) + 11) := by omega
set_option maxHeartbeats 4000000 in
set_option maxRecDepth 100000 in
theorem c_X9_fewest (l : Launch) (E : zz_E) (σ : zz_S) (h0 : Nat) (mt : Int32) (nn : Int32) (what : Int32) (g0 : zz_M E h0) (hJ : zz_IM σ h0) (K : zy_W) (hW : zy_YW σ (h0 + 1) K) : Met l yX9_fewest wzX9_fewest ({ frames := 5, cells := 0, slots := 0, locals := 119 }) (va_Pc [.ref h0, .int mt, .int nn, .int what] (zz_B E σ)) (va_Qi (fun r σ1 => zz_ch (fun a k => (a = h0 + 3 ∨ (h0 + 7 ≤ a ∧ a ≤ h0 + 11))) σ σ1 ∧ (zy_p24 K (σ (h0 + 1) 0).toInt mt.toInt nn.toInt what.toInt r)) (zz_B E) (zz_A E)) 0 0 (zz_A E) := by
  refine zz_met (cc := cX9_fewest) (maxL := 7) (ret := (some .int)) (by decide) rfl (Nat.le_of_ble_eq_true rfl) ?_
  intro p e s m args below meth c ls hx hb hr hts hown hlocks hml hK hP hS hl
  have hl : lv_has ls 7 [(0, .ref h0), (1, .int mt), (2, .int nn), (3, .int what)] := hl
  have hown : s.vm.findClass RX9 = some m.cls := hown
  have k_m1000000001 : ((-1000000001) : Int32).toInt = -1000000001 := by decide +kernel
  have k_m1 : ((-1) : Int32).toInt = -1 := by decide +kernel
  have k_0 : (0 : Int32).toInt = 0 := by decide +kernel
  have k_1 : (1 : Int32).toInt = 1 := by decide +kernel
  have k_240 : (240 : Int32).toInt = 240 := by decide +kernel
  replace t0 : σ (h0 + 1) 2 = σ (h0 + 1) 2 := rfl
  replace t1 : σ (h0 + 1) 3 = σ (h0 + 1) 3 := rfl
  replace t2 : σ (h0 + 1) 0 = σ (h0 + 1) 0 := rfl
  have hC : zz_ch (fun a k => (a = h0 + 3 ∨ (h0 + 7 ≤ a ∧ a ≤ h0 + 11))) σ σ := zz_ch.rf σ
  have hI := hJ.1
  obtain ⟨hh, hsl, hd, hp, htc, hwc, hM, hT⟩ := id hI
  have hz5 := hJ.2.2.1
  have htr := hJ.2.2.2
  have hct := hW.2.1
  have hc9 := hW.2.2.2.2.2.2.1
  refine lv_iload_n hx hb dX9_fewest_0 rfl (lv_at hl 1 rfl) ?_
  refine zz_callSp (As := [.int mt]) (rest := []) ⟨hx, hb, hml, hown, hts⟩ hK hP hS (c_X9_isMatter l E σ mt) (va_cwS 1 hts gX9_fewest_X9_isMatter rfl rfl rfl (by decide +kernel) ⟨Nat.le_of_ble_eq_true rfl, Nat.le_of_ble_eq_true rfl⟩) rfl hl.1 rfl (Nat.le_of_ble_eq_true rfl) dX9_fewest_1 ⟨Nat.zero_le _, Nat.zero_le _⟩ (fun r1 H locs f1 hP1 hS1 => ?_)
  replace hP := hP1
  replace hS := hS1
  clear hP1 hS1
  refine lv_if_eq (tgt := 27) hx hb dX9_fewest_4 (by decide) (fun c2 => ?_) (fun c2 => ?_)
  · have c2 := zz_eqT c2
    refine lv_aload_n hx hb dX9_fewest_27 rfl (lv_at hl 0 rfl) ?_
    refine lv_ldc (v := (-1000000001)) hx hb hown (hts (.constant RX9 93 (-1000000001)) (List.mem_cons_of_mem _ bm_138)) dX9_fewest_28 ?_
    refine zz_callVi (As := [.int (-1000000001)]) (rest := []) ⟨hx, hb, hml, hown, hts⟩ hK hP hS (c_X9_error l E σ h0 (-1000000001) g0 (by omega)) (cwV 1 hts gX9_fewest_X9_error rfl rfl rfl (by decide +kernel) ⟨Nat.le_of_ble_eq_true rfl, Nat.le_of_ble_eq_true rfl⟩) (g0.1) rfl rfl hl.1 rfl (Nat.le_of_ble_eq_true rfl) dX9_fewest_30 ⟨Nat.zero_le _, Nat.zero_le _⟩ (fun r3 σ3 H locs q3 hP1 hS1 => ?_)
    replace hP := hP1
    replace hS := hS1
    clear hP1 hS1
    try dsimp only at q3
    obtain ⟨w3, f3⟩ := q3
    replace hC := hC.tr (w3.mono (dS23_1 h0))
    replace t0 : σ3 (h0 + 1) 2 = σ (h0 + 1) 2 := (w3 (h0 + 1) 2 (dS23_2 h0)).trans t0
    replace t1 : σ3 (h0 + 1) 3 = σ (h0 + 1) 3 := (w3 (h0 + 1) 3 (dS23_2 h0)).trans t1
    replace t2 : σ3 (h0 + 1) 0 = σ (h0 + 1) 0 := (w3 (h0 + 1) 0 (dS23_2 h0)).trans t2
    exact zz_iret hx hb hr hlocks hK hP hS dX9_fewest_33 (by exact ⟨hC, Or.inl ⟨by omega, by omega⟩⟩)
  · have c2 := zz_neT c2
    refine lv_iload_n hx hb dX9_fewest_7 rfl (lv_at hl 2 rfl) ?_
    refine lv_iconst (v := 1) hx hb dX9_fewest_8 (by decide) ?_
    refine lv_sipush (v := 240) hx hb dX9_fewest_9 (by decide) ?_
    refine zz_callSp (As := [.int nn, .int 1, .int 240]) (rest := []) ⟨hx, hb, hml, hown, hts⟩ hK hP hS (c_X9_in l E σ nn 1 240) (va_cwS 3 hts gX9_fewest_X9_in rfl rfl rfl (by decide +kernel) ⟨Nat.le_of_ble_eq_true rfl, Nat.le_of_ble_eq_true rfl⟩) rfl hl.1 rfl (Nat.le_of_ble_eq_true rfl) dX9_fewest_12 ⟨Nat.zero_le _, Nat.zero_le _⟩ (fun r4 H locs f4 hP1 hS1 => ?_)
    replace hP := hP1
    replace hS := hS1
    clear hP1 hS1
    refine lv_if_eq (tgt := 27) hx hb dX9_fewest_15 (by decide) (fun c5 => ?_) (fun c5 => ?_)
    · have c5 := zz_eqT c5
      refine lv_aload_n hx hb dX9_fewest_27 rfl (lv_at hl 0 rfl) ?_
      refine lv_ldc (v := (-1000000001)) hx hb hown (hts (.constant RX9 93 (-1000000001)) (List.mem_cons_of_mem _ bm_138)) dX9_fewest_28 ?_
      refine zz_callVi (As := [.int (-1000000001)]) (rest := []) ⟨hx, hb, hml, hown, hts⟩ hK hP hS (c_X9_error l E σ h0 (-1000000001) g0 (by omega)) (cwV 1 hts gX9_fewest_X9_error rfl rfl rfl (by decide +kernel) ⟨Nat.le_of_ble_eq_true rfl, Nat.le_of_ble_eq_true rfl⟩) (g0.1) rfl rfl hl.1 rfl (Nat.le_of_ble_eq_true rfl) dX9_fewest_30 ⟨Nat.zero_le _, Nat.zero_le _⟩ (fun r6 σ6 H locs q6 hP1 hS1 => ?_)
      replace hP := hP1
      replace hS := hS1
      clear hP1 hS1
      try dsimp only at q6
      obtain ⟨w6, f6⟩ := q6
      replace hC := hC.tr (w6.mono (dS23_1 h0))
      replace t0 : σ6 (h0 + 1) 2 = σ (h0 + 1) 2 := (w6 (h0 + 1) 2 (dS23_2 h0)).trans t0
      replace t1 : σ6 (h0 + 1) 3 = σ (h0 + 1) 3 := (w6 (h0 + 1) 3 (dS23_2 h0)).trans t1
      replace t2 : σ6 (h0 + 1) 0 = σ (h0 + 1) 0 := (w6 (h0 + 1) 0 (dS23_2 h0)).trans t2
      exact zz_iret hx hb hr hlocks hK hP hS dX9_fewest_33 (by exact ⟨hC, Or.inl ⟨by omega, by omega⟩⟩)
    · have c5 := zz_neT c5
      refine lv_iload_n hx hb dX9_fewest_18 rfl (lv_at hl 3 rfl) ?_
      refine lv_iconst (v := 0) hx hb dX9_fewest_19 (by decide) ?_
      refine lv_iconst (v := 1) hx hb dX9_fewest_20 (by decide) ?_
      refine zz_callSp (As := [.int what, .int 0, .int 1]) (rest := []) ⟨hx, hb, hml, hown, hts⟩ hK hP hS (c_X9_in l E σ what 0 1) (va_cwS 3 hts gX9_fewest_X9_in rfl rfl rfl (by decide +kernel) ⟨Nat.le_of_ble_eq_true rfl, Nat.le_of_ble_eq_true rfl⟩) rfl hl.1 rfl (Nat.le_of_ble_eq_true rfl) dX9_fewest_21 ⟨Nat.zero_le _, Nat.zero_le _⟩ (fun r7 H locs f7 hP1 hS1 => ?_)
      replace hP := hP1
      replace hS := hS1
      clear hP1 hS1
      refine lv_if_ne (tgt := 34) hx hb dX9_fewest_24 (by decide) (fun c8 => ?_) (fun c8 => ?_)
      · have c8 := zz_neT c8
        refine lv_aload_n hx hb dX9_fewest_34 rfl (lv_at hl 0 rfl) ?_
        refine lv_iload_n hx hb dX9_fewest_35 rfl (lv_at hl 1 rfl) ?_
        refine zz_callVp (As := [.int mt]) (rest := []) ⟨hx, hb, hml, hown, hts⟩ hK hP hS (c_X9_dreamsOf l E σ h0 mt g0 (by exact hI) K (by exact hW)) (cwV 1 hts gX9_fewest_X9_dreamsOf rfl rfl rfl (by decide +kernel) ⟨Nat.le_of_ble_eq_true rfl, Nat.le_of_ble_eq_true rfl⟩) (g0.1) rfl rfl hl.1 rfl (Nat.le_of_ble_eq_true rfl) dX9_fewest_36 ⟨Nat.zero_le _, Nat.zero_le _⟩ (fun r9 H locs f9 hP1 hS1 => ?_)
        replace hP := hP1
        replace hS := hS1
        clear hP1 hS1
        obtain ⟨hs1, hs2⟩ := f9
        have hso : ∀ d : Nat, zy_tb r9 d ↔ ((d : Int) < K.2.2.1 ∧ K.2.1 d 2 = mt.toInt ∧ K.2.1 d 5 = 0) := fun d => by
          rw [hs1, zy_tb_st _ (by omega)]
          exact ⟨fun z => ⟨by omega, z.2⟩, fun z => ⟨by omega, z.2⟩⟩
        refine lv_istore (lv' := [(4, .int r9), (0, .ref h0), (1, .int mt), (2, .int nn), (3, .int what)]) hx hb dX9_fewest_39 hl (by decide) rfl (fun ls hl => ?_)
        refine lv_aload_n hx hb dX9_fewest_41 rfl (lv_at hl 1 rfl) ?_
        refine lv_iload hx hb dX9_fewest_42 (lv_at hl 0 rfl) ?_
        refine lv_iload_n hx hb dX9_fewest_44 rfl (lv_at hl 3 rfl) ?_
        refine zz_callVv (As := [.int r9, .int nn]) (rest := []) ⟨hx, hb, hml, hown, hts⟩ hK hP hS (c_X9_findWeights l E σ h0 r9 nn g0 (by omega) (by exact hs2) (by exact hI) K (by exact hW)) (cwV 2 hts gX9_fewest_X9_findWeights rfl rfl rfl (by decide +kernel) ⟨Nat.le_of_ble_eq_true rfl, Nat.le_of_ble_eq_true rfl⟩) (g0.1) rfl rfl hl.1 rfl (Nat.le_of_ble_eq_true rfl) dX9_fewest_45 ⟨Nat.zero_le _, Nat.zero_le _⟩ (fun σ10 H locs q10 hP1 hS1 => ?_)
        replace hP := hP1
        replace hS := hS1
        clear hP1 hS1
        try dsimp only at q10
        obtain ⟨w10, f10⟩ := q10
        replace hC := hC.tr (w10.mono (dS23_5 h0))
        replace t0 : σ10 (h0 + 1) 2 = σ (h0 + 1) 2 := (w10 (h0 + 1) 2 (dS23_6 h0)).trans t0
        replace t1 : σ10 (h0 + 1) 3 = σ (h0 + 1) 3 := (w10 (h0 + 1) 3 (dS23_6 h0)).trans t1
        replace t2 : σ10 (h0 + 1) 0 = σ (h0 + 1) 0 := (w10 (h0 + 1) 0 (dS23_6 h0)).trans t2
        have htw := f10
        refine lv_iload hx hb dX9_fewest_48 (lv_at hl 0 rfl) ?_
        refine lv_istore (lv' := [(5, .int r9), (4, .int r9), (0, .ref h0), (1, .int mt), (2, .int nn), (3, .int what)]) hx hb dX9_fewest_50 hl (by decide) rfl (fun ls hl => ?_)
        refine lv_iload hx hb dX9_fewest_52 (lv_at hl 1 rfl) ?_
        refine lv_istore (lv' := [(6, .int r9), (5, .int r9), (4, .int r9), (0, .ref h0), (1, .int mt), (2, .int nn), (3, .int what)]) hx hb dX9_fewest_54 hl (by decide) rfl (fun ls hl => ?_)
        have J56 : ∀ (n : Nat) (be : Int32) (st : Int32) (H : Heap) (locs : List Loc) (ls : Array Slot), ((st.toInt + 1).toNat) < n → (0 ≤ be.toInt ∧ be.toInt < 1024) → (-1 ≤ st.toInt ∧ st.toInt < 1024) → (zy_vd K (σ (h0 + 1) 0).toInt mt.toInt nn.toInt.toNat (zy_tb be)) → (st.toInt < (zy_fs K (σ (h0 + 1) 0).toInt mt.toInt nn.toInt.toNat).toInt → be = (zy_fs K (σ (h0 + 1) 0).toInt mt.toInt nn.toInt.toNat)) → zz_P E σ10 H → va_S (zz_A E) s.heap H locs → lv_has ls 7 [(6, .int st), (5, .int be), (4, .int r9), (0, .ref h0), (1, .int mt), (2, .int nn), (3, .int what)] → W p l e (headSpec wzX9_fewest ({ frames := 5, cells := 0, slots := 0, locals := 119 })).room s m args below meth c H locs 0 0 (MQ below (va_Qi (fun r σ1 => zz_ch (fun a k => (a = h0 + 3 ∨ (h0 + 7 ≤ a ∧ a ≤ h0 + 11))) σ σ1 ∧ (zy_p24 K (σ (h0 + 1) 0).toInt mt.toInt nn.toInt what.toInt r)) (zz_B E) (zz_A E)) args s 0 0 (zz_A E)) (F0 m 56 ls []) := by
          intro n
          induction n with
          | zero => intro be st H locs ls hm; exact absurd hm (Nat.not_lt_zero _)
          | succ n ih56 =>
            intro be st H locs ls hm f56_0 f56_1 f56_2 f56_3 hP hS hl
            have hrg := zz_rng st
            refine lv_iload hx hb dX9_fewest_56 (lv_at hl 0 rfl) ?_
            refine lv_if_lt (tgt := 114) hx hb dX9_fewest_58 (by decide) (fun c11 => ?_) (fun c11 => ?_)
            · have c11 := zz_ltT c11
              refine lv_iload_n hx hb dX9_fewest_114 rfl (lv_at hl 6 rfl) ?_
              refine lv_if_ne (tgt := 126) hx hb dX9_fewest_115 (by decide) (fun c12 => ?_) (fun c12 => ?_)
              · have c12 := zz_neT c12
                refine lv_iload hx hb dX9_fewest_126 (lv_at hl 1 rfl) ?_
                have hbe := f56_3 (by have := (zy_fs_rng K (σ (h0 + 1) 0).toInt mt.toInt nn.toInt.toNat).1; omega)
                exact zz_iret hx hb hr hlocks hK hP hS dX9_fewest_128 (by exact ⟨hC, Or.inr (Or.inr (⟨by omega, congrArg Int32.toInt hbe⟩))⟩)
              · have c12 := zz_eqT c12
                refine lv_iload hx hb dX9_fewest_118 (lv_at hl 1 rfl) ?_
                refine zz_callSp (As := [.int be]) (rest := []) ⟨hx, hb, hml, hown, hts⟩ hK hP hS (c_X9_bits l E σ10 be (by omega)) (va_cwS 1 hts gX9_fewest_X9_bits rfl rfl rfl (by decide +kernel) ⟨Nat.le_of_ble_eq_true rfl, Nat.le_of_ble_eq_true rfl⟩) rfl hl.1 rfl (Nat.le_of_ble_eq_true rfl) dX9_fewest_120 ⟨Nat.zero_le _, Nat.zero_le _⟩ (fun r13 H locs f13 hP1 hS1 => ?_)
                replace hP := hP1
                replace hS := hS1
                clear hP1 hS1
                try simp only [t0, t1, t2] at f13
                refine lv_goto (tgt := 128) hx hb dX9_fewest_123 (by decide) ?_
                have hbe := f56_3 (by have := (zy_fs_rng K (σ (h0 + 1) 0).toInt mt.toInt nn.toInt.toNat).1; omega)
                exact zz_iret hx hb hr hlocks hK hP hS dX9_fewest_128 (by exact ⟨hC, Or.inr (Or.inl ⟨by omega, by rw [f13.1, hbe]⟩)⟩)
            · have c11 := zz_nltT c11
              refine lv_iload hx hb dX9_fewest_61 (lv_at hl 0 rfl) ?_
              refine lv_iload hx hb dX9_fewest_63 (lv_at hl 2 rfl) ?_
              refine lv_iconst (v := (-1)) hx hb dX9_fewest_65 (by decide) ?_
              refine lv_ixor hx hb dX9_fewest_66 ?_
              refine lv_topi (fun n14 e14 => ?_)
              refine lv_iand hx hb dX9_fewest_67 ?_
              refine lv_topi (fun n15 e15 => ?_)
              have hsub : ¬ (∀ d : Nat, zy_tb st d → zy_tb r9 d) → ¬ n15.toInt = 0 := fun q z => q (fun d hd => by
                by_cases hd9 : d < 32
                · refine Classical.byContradiction (fun w => ?_)
                  have h9 := (zy_tb_and (d := d) e15).mpr ⟨hd, (zy_tb_not hd9 e14).mpr w⟩
                  rw [show n15 = 0 from zz_ext (by omega)] at h9
                  exact zy_tb_0 d h9
                · exact absurd hd (by unfold zy_tb; rw [BitVec.getLsbD_of_ge _ _ (by omega)]; decide))
              have hsub2 : (∀ d : Nat, zy_tb st d → zy_tb r9 d) → n15.toInt = 0 := fun q => by
                have h9 := zy_tb_ext (x := n15) (y := 0) (zy_and_rng ⟨by omega, by omega⟩ e15) (by omega) (fun d => ⟨fun z => by
                  have z2 := (zy_tb_and e15).mp z
                  by_cases hd9 : d < 32
                  · exact absurd (q d z2.1) ((zy_tb_not hd9 e14).mp z2.2)
                  · exact absurd z (by unfold zy_tb; rw [BitVec.getLsbD_of_ge _ _ (by omega)]; decide), fun z => absurd z (zy_tb_0 d)⟩)
                rw [h9]; exact k_0
              refine lv_if_ne (tgt := 108) hx hb dX9_fewest_68 (by decide) (fun c16 => ?_) (fun c16 => ?_)
              · have c16 := zz_neT c16
                obtain ⟨n17, e17⟩ : ∃ y : Int32, y = st + (-1) := ⟨_, rfl⟩
                have f17 : n17.toInt = (st).toInt + (-1) := by have h9 := zz_addT e17 (by omega) (by omega); omega
                refine lv_iinc (v := n17) (lv' := [(6, .int n17), (5, .int be), (4, .int r9), (0, .ref h0), (1, .int mt), (2, .int nn), (3, .int what)]) hx hb dX9_fewest_108 hl (k := 0) rfl (by rw [e17]; rfl) (by decide) rfl (fun ls hl => ?_)
                refine lv_goto (tgt := 56) hx hb dX9_fewest_111 (by decide) ?_
                exact ih56 be n17 _ _ _ (by omega) (by exact f56_0) (by omega) (by exact f56_2) (by intro q; exact zy_fs_no (st := st) (by omega) f56_0 f56_2 hso f56_3 (by omega) (fun z => absurd (hsub2 z.1) (by omega))) hP hS (lv_sub hl [0, 1, 2, 3, 4, 5, 6] rfl)
              · have c16 := zz_eqT c16
                refine lv_iload hx hb dX9_fewest_71 (lv_at hl 0 rfl) ?_
                refine zz_callSp (As := [.int st]) (rest := []) ⟨hx, hb, hml, hown, hts⟩ hK hP hS (c_X9_bits l E σ10 st (by omega)) (va_cwS 1 hts gX9_fewest_X9_bits rfl rfl rfl (by decide +kernel) ⟨Nat.le_of_ble_eq_true rfl, Nat.le_of_ble_eq_true rfl⟩) rfl hl.1 rfl (Nat.le_of_ble_eq_true rfl) dX9_fewest_73 ⟨Nat.zero_le _, Nat.zero_le _⟩ (fun r18 H locs f18 hP1 hS1 => ?_)
                replace hP := hP1
                replace hS := hS1
                clear hP1 hS1
                try simp only [t0, t1, t2] at f18
                refine lv_iload hx hb dX9_fewest_76 (lv_at hl 1 rfl) ?_
                refine zz_callSp (As := [.int be]) (rest := [.int r18]) ⟨hx, hb, hml, hown, hts⟩ hK hP hS (c_X9_bits l E σ10 be (by omega)) (va_cwS 1 hts gX9_fewest_X9_bits rfl rfl rfl (by decide +kernel) ⟨Nat.le_of_ble_eq_true rfl, Nat.le_of_ble_eq_true rfl⟩) rfl hl.1 rfl (Nat.le_of_ble_eq_true rfl) dX9_fewest_78 ⟨Nat.zero_le _, Nat.zero_le _⟩ (fun r19 H locs f19 hP1 hS1 => ?_)
                replace hP := hP1
                replace hS := hS1
                clear hP1 hS1
                try simp only [t0, t1, t2] at f19
                have hpa := f18.1
                have hpb := f19.1
                refine lv_icmp_gt (tgt := 108) hx hb dX9_fewest_81 (by decide) (fun c20 => ?_) (fun c20 => ?_)
                · have c20 := zz_ltT c20
                  obtain ⟨n21, e21⟩ : ∃ y : Int32, y = st + (-1) := ⟨_, rfl⟩
                  have f21 : n21.toInt = (st).toInt + (-1) := by have h9 := zz_addT e21 (by omega) (by omega); omega
                  refine lv_iinc (v := n21) (lv' := [(6, .int n21), (5, .int be), (4, .int r9), (0, .ref h0), (1, .int mt), (2, .int nn), (3, .int what)]) hx hb dX9_fewest_108 hl (k := 0) rfl (by rw [e21]; rfl) (by decide) rfl (fun ls hl => ?_)
                  refine lv_goto (tgt := 56) hx hb dX9_fewest_111 (by decide) ?_
                  exact ih56 be n21 _ _ _ (by omega) (by exact f56_0) (by omega) (by exact f56_2) (by intro q; exact zy_fs_no (st := st) (by omega) f56_0 f56_2 hso f56_3 (by omega) (fun z => by have z2 := z.2.1; omega)) hP hS (lv_sub hl [0, 1, 2, 3, 4, 5, 6] rfl)
                · have c20 := zz_nltT c20
                  refine lv_aload_n hx hb dX9_fewest_84 rfl (lv_at hl 3 rfl) ?_
                  refine lv_iload hx hb dX9_fewest_85 (lv_at hl 2 rfl) ?_
                  refine lv_iload hx hb dX9_fewest_87 (lv_at hl 0 rfl) ?_
                  refine lv_iconst (v := (-1)) hx hb dX9_fewest_89 (by decide) ?_
                  refine lv_ixor hx hb dX9_fewest_90 ?_
                  refine lv_topi (fun n22 e22 => ?_)
                  refine lv_iand hx hb dX9_fewest_91 ?_
                  refine lv_topi (fun n23 e23 => ?_)
                  refine lv_iload_n hx hb dX9_fewest_92 rfl (lv_at hl 5 rfl) ?_
                  refine zz_callVp (As := [.int n23, .int nn]) (rest := []) ⟨hx, hb, hml, hown, hts⟩ hK hP hS (c_X9_isFreeBy l E σ10 h0 n23 nn g0 (by omega) (by exact hI.keep (fun k => hC _ _ (by first | (dsimp only; omega) | omega))) K (by exact hW.keep (fun k q => hC _ _ (by first | (dsimp only; omega) | omega))) r9 (by exact zy_and_rng hs2 e23) (by rw [t2]; exact htw)) (cwV 2 hts gX9_fewest_X9_isFreeBy rfl rfl rfl (by decide +kernel) ⟨Nat.le_of_ble_eq_true rfl, Nat.le_of_ble_eq_true rfl⟩) (g0.1) rfl rfl hl.1 rfl (Nat.le_of_ble_eq_true rfl) dX9_fewest_93 ⟨Nat.zero_le _, Nat.zero_le _⟩ (fun r24 H locs f24 hP1 hS1 => ?_)
                  replace hP := hP1
                  replace hS := hS1
                  clear hP1 hS1
                  try simp only [t0, t1, t2] at f24
                  have hvd : zy_bt r24.toInt (zy_vd K (σ (h0 + 1) 0).toInt mt.toInt nn.toInt.toNat (zy_tb st)) := f24.of ⟨fun z k hk => by rw [← zy_ig_fg (K := K) (h := (σ (h0 + 1) 0).toInt + (k : Int)) (mt := mt.toInt) (sd := 1) (st := st) (by omega) e22 e23 hso, ← zy_ig_fg (K := K) (h := (σ (h0 + 1) 0).toInt + (k : Int)) (mt := mt.toInt) (sd := 0) (st := st) (by omega) e22 e23 hso]; exact z k hk, fun z k hk => by rw [zy_ig_fg (K := K) (h := (σ (h0 + 1) 0).toInt + (k : Int)) (mt := mt.toInt) (sd := 1) (st := st) (by omega) e22 e23 hso, zy_ig_fg (K := K) (h := (σ (h0 + 1) 0).toInt + (k : Int)) (mt := mt.toInt) (sd := 0) (st := st) (by omega) e22 e23 hso]; exact z k hk⟩
                  refine lv_if_eq (tgt := 104) hx hb dX9_fewest_96 (by decide) (fun c25 => ?_) (fun c25 => ?_)
                  · have c25 := zz_eqT c25
                    refine lv_iload hx hb dX9_fewest_104 (lv_at hl 1 rfl) ?_
                    refine lv_istore (lv' := [(5, .int be), (6, .int st), (4, .int r9), (0, .ref h0), (1, .int mt), (2, .int nn), (3, .int what)]) hx hb dX9_fewest_106 hl (by decide) rfl (fun ls hl => ?_)
                    obtain ⟨n26, e26⟩ : ∃ y : Int32, y = st + (-1) := ⟨_, rfl⟩
                    have f26 : n26.toInt = (st).toInt + (-1) := by have h9 := zz_addT e26 (by omega) (by omega); omega
                    refine lv_iinc (v := n26) (lv' := [(6, .int n26), (5, .int be), (4, .int r9), (0, .ref h0), (1, .int mt), (2, .int nn), (3, .int what)]) hx hb dX9_fewest_108 hl (k := 1) rfl (by rw [e26]; rfl) (by decide) rfl (fun ls hl => ?_)
                    refine lv_goto (tgt := 56) hx hb dX9_fewest_111 (by decide) ?_
                    exact ih56 be n26 _ _ _ (by omega) (by exact f56_0) (by omega) (by exact f56_2) (by intro q; exact zy_fs_no (st := st) (by omega) f56_0 f56_2 hso f56_3 (by omega) (fun z => hvd.n (by omega) z.2.2)) hP hS (lv_sub hl [0, 1, 2, 3, 4, 5, 6] rfl)
                  · have c25 := zz_neT c25
                    refine lv_iload hx hb dX9_fewest_99 (lv_at hl 0 rfl) ?_
                    refine lv_goto (tgt := 106) hx hb dX9_fewest_101 (by decide) ?_
                    refine lv_istore (lv' := [(5, .int st), (6, .int st), (4, .int r9), (0, .ref h0), (1, .int mt), (2, .int nn), (3, .int what)]) hx hb dX9_fewest_106 hl (by decide) rfl (fun ls hl => ?_)
                    obtain ⟨n27, e27⟩ : ∃ y : Int32, y = st + (-1) := ⟨_, rfl⟩
                    have f27 : n27.toInt = (st).toInt + (-1) := by have h9 := zz_addT e27 (by omega) (by omega); omega
                    refine lv_iinc (v := n27) (lv' := [(6, .int n27), (5, .int st), (4, .int r9), (0, .ref h0), (1, .int mt), (2, .int nn), (3, .int what)]) hx hb dX9_fewest_108 hl (k := 1) rfl (by rw [e27]; rfl) (by decide) rfl (fun ls hl => ?_)
                    refine lv_goto (tgt := 56) hx hb dX9_fewest_111 (by decide) ?_
                    exact ih56 st n27 _ _ _ (by omega) (by omega) (by omega) (by exact hvd.y (by omega)) (by intro q; exact zy_fs_up (be := be) (by omega) (by omega) (hvd.y (by omega)) (by omega)) hP hS (lv_sub hl [0, 1, 2, 3, 4, 5, 6] rfl)
        exact J56 _ r9 r9 _ _ _ (Nat.lt_succ_self _) (by exact hs2) (by exact ⟨by omega, hs2.2⟩) (by exact zy_vd_all (fun d a b c => (hso d).mpr ⟨a, b, c⟩)) (by intro q; exact absurd q (by have := zy_tb_le (zy_fs_rng K (σ (h0 + 1) 0).toInt mt.toInt nn.toInt.toNat) hs2 (fun d z => (hso d).mpr (zy_fw_in ((zy_fs_hs (by omega)).mp z))); omega)) hP hS (lv_sub hl [0, 1, 2, 3, 4, 5, 6] rfl)
      · have c8 := zz_eqT c8
        refine lv_aload_n hx hb dX9_fewest_27 rfl (lv_at hl 0 rfl) ?_
        refine lv_ldc (v := (-1000000001)) hx hb hown (hts (.constant RX9 93 (-1000000001)) (List.mem_cons_of_mem _ bm_138)) dX9_fewest_28 ?_
        refine zz_callVi (As := [.int (-1000000001)]) (rest := []) ⟨hx, hb, hml, hown, hts⟩ hK hP hS (c_X9_error l E σ h0 (-1000000001) g0 (by omega)) (cwV 1 hts gX9_fewest_X9_error rfl rfl rfl (by decide +kernel) ⟨Nat.le_of_ble_eq_true rfl, Nat.le_of_ble_eq_true rfl⟩) (g0.1) rfl rfl hl.1 rfl (Nat.le_of_ble_eq_true rfl) dX9_fewest_30 ⟨Nat.zero_le _, Nat.zero_le _⟩ (fun r28 σ28 H locs q28 hP1 hS1 => ?_)
        replace hP := hP1
        replace hS := hS1
        clear hP1 hS1
        try dsimp only at q28
        obtain ⟨w28, f28⟩ := q28
        replace hC := hC.tr (w28.mono (dS23_1 h0))
        replace t0 : σ28 (h0 + 1) 2 = σ (h0 + 1) 2 := (w28 (h0 + 1) 2 (dS23_2 h0)).trans t0
        replace t1 : σ28 (h0 + 1) 3 = σ (h0 + 1) 3 := (w28 (h0 + 1) 3 (dS23_2 h0)).trans t1
        replace t2 : σ28 (h0 + 1) 0 = σ (h0 + 1) 0 := (w28 (h0 + 1) 0 (dS23_2 h0)).trans t2
        exact zz_iret hx hb hr hlocks hK hP hS dX9_fewest_33 (by exact ⟨hC, Or.inl ⟨by omega, by omega⟩⟩)
theorem gX9_odds_X9_isMatter : GoodIn wzX9_odds (va_wsS RX9 189 yX9_isMatter wzX9_isMatter) := wz_co bm_646 (wz_co bm_647 (wz_co bm_5 (wz_in bm_648)))
theorem gX9_odds_X9_in : GoodIn wzX9_odds (va_wsS RX9 47 yX9_in wzX9_in) := wz_co bm_143 (wz_co bm_144 (wz_co bm_5 (wz_in bm_145)))
theorem gX9_odds_X9_error : GoodIn wzX9_odds (wsV RX9 94 RX9 yX9_error wzX9_error) := wz_co bm_146 (wz_co bm_147 (wz_co bm_148 (wz_co bm_5 (wz_in bm_149))))
theorem gX9_odds_X9_hoursUnder : GoodIn wzX9_odds (wsV RX9 199 RX9 yX9_hoursUnder wzX9_hoursUnder) := wz_co bm_708 (wz_co bm_709 (wz_co bm_710 (wz_co bm_5 (wz_in bm_711))))
set_option maxHeartbeats 4000000 in
set_option maxRecDepth 100000 in
theorem c_X9_odds (l : Launch) (E : zz_E) (σ : zz_S) (h0 : Nat) (mt : Int32) (ru : Int32) (part : Int32) (g0 : zz_M E h0) (hJ : zz_IM σ h0) (K : zy_W) (hW : zy_YW σ (h0 + 1) K) : Met l yX9_odds wzX9_odds ({ frames := 7, cells := 0, slots := 0, locals := 169 }) (va_Pc [.ref h0, .int mt, .int ru, .int part] (zz_B E σ)) (va_Qi (fun r σ1 => zz_ch (fun a k => (a = h0 + 3 ∨ (h0 + 7 ≤ a ∧ a ≤ h0 + 11))) σ σ1 ∧ (zy_p25 K (σ (h0 + 1) 0).toInt mt.toInt ru.toInt part.toInt r)) (zz_B E) (zz_A E)) 0 0 (zz_A E) := by
  refine zz_met (cc := cX9_odds) (maxL := 7) (ret := (some .int)) (by decide) rfl (Nat.le_of_ble_eq_true rfl) ?_
  intro p e s m args below meth c ls hx hb hr hts hown hlocks hml hK hP hS hl
  have hl : lv_has ls 7 [(0, .ref h0), (1, .int mt), (2, .int ru), (3, .int part)] := hl
  have hown : s.vm.findClass RX9 = some m.cls := hown
  have k_m1000000001 : ((-1000000001) : Int32).toInt = -1000000001 := by decide +kernel
  have k_m1 : ((-1) : Int32).toInt = -1 := by decide +kernel
  have k_0 : (0 : Int32).toInt = 0 := by decide +kernel
  have k_1 : (1 : Int32).toInt = 1 := by decide +kernel
  have k_48 : (48 : Int32).toInt = 48 := by decide +kernel
  replace t0 : σ (h0 + 1) 2 = σ (h0 + 1) 2 := rfl
  replace t1 : σ (h0 + 1) 3 = σ (h0 + 1) 3 := rfl
  replace t2 : σ (h0 + 1) 0 = σ (h0 + 1) 0 := rfl
  have hC : zz_ch (fun a k => (a = h0 + 3 ∨ (h0 + 7 ≤ a ∧ a ≤ h0 + 11))) σ σ := zz_ch.rf σ
  have hI := hJ.1
  obtain ⟨hh, hsl, hd, hp, htc, hwc, hM, hT⟩ := id hI
  have hz5 := hJ.2.2.1
  have htr := hJ.2.2.2
  have hct := hW.2.1
  refine lv_iload_n hx hb dX9_odds_0 rfl (lv_at hl 1 rfl) ?_
  refine zz_callSp (As := [.int mt]) (rest := []) ⟨hx, hb, hml, hown, hts⟩ hK hP hS (c_X9_isMatter l E σ mt) (va_cwS 1 hts gX9_odds_X9_isMatter rfl rfl rfl (by decide +kernel) ⟨Nat.le_of_ble_eq_true rfl, Nat.le_of_ble_eq_true rfl⟩) rfl hl.1 rfl (Nat.le_of_ble_eq_true rfl) dX9_odds_1 ⟨Nat.zero_le _, Nat.zero_le _⟩ (fun r1 H locs f1 hP1 hS1 => ?_)
  replace hP := hP1
  replace hS := hS1
  clear hP1 hS1
  refine lv_if_eq (tgt := 25) hx hb dX9_odds_4 (by decide) (fun c2 => ?_) (fun c2 => ?_)
  · have c2 := zz_eqT c2
    refine lv_aload_n hx hb dX9_odds_25 rfl (lv_at hl 0 rfl) ?_
    refine lv_ldc (v := (-1000000001)) hx hb hown (hts (.constant RX9 93 (-1000000001)) (List.mem_cons_of_mem _ bm_138)) dX9_odds_26 ?_
    refine zz_callVi (As := [.int (-1000000001)]) (rest := []) ⟨hx, hb, hml, hown, hts⟩ hK hP hS (c_X9_error l E σ h0 (-1000000001) g0 (by omega)) (cwV 1 hts gX9_odds_X9_error rfl rfl rfl (by decide +kernel) ⟨Nat.le_of_ble_eq_true rfl, Nat.le_of_ble_eq_true rfl⟩) (g0.1) rfl rfl hl.1 rfl (Nat.le_of_ble_eq_true rfl) dX9_odds_28 ⟨Nat.zero_le _, Nat.zero_le _⟩ (fun r3 σ3 H locs q3 hP1 hS1 => ?_)
    replace hP := hP1
    replace hS := hS1
    clear hP1 hS1
    try dsimp only at q3
    obtain ⟨w3, f3⟩ := q3
    replace hC := hC.tr (w3.mono (dS23_1 h0))
    replace t0 : σ3 (h0 + 1) 2 = σ (h0 + 1) 2 := (w3 (h0 + 1) 2 (dS23_2 h0)).trans t0
    replace t1 : σ3 (h0 + 1) 3 = σ (h0 + 1) 3 := (w3 (h0 + 1) 3 (dS23_2 h0)).trans t1
    replace t2 : σ3 (h0 + 1) 0 = σ (h0 + 1) 0 := (w3 (h0 + 1) 0 (dS23_2 h0)).trans t2
    exact zz_iret hx hb hr hlocks hK hP hS dX9_odds_31 (by exact ⟨hC, Or.inl ⟨by omega, by omega⟩⟩)
  · have c2 := zz_neT c2
    refine lv_iload_n hx hb dX9_odds_7 rfl (lv_at hl 2 rfl) ?_
    refine lv_iconst (v := (-1)) hx hb dX9_odds_8 (by decide) ?_
    refine lv_iconst (v := 1) hx hb dX9_odds_9 (by decide) ?_
    refine zz_callSp (As := [.int ru, .int (-1), .int 1]) (rest := []) ⟨hx, hb, hml, hown, hts⟩ hK hP hS (c_X9_in l E σ ru (-1) 1) (va_cwS 3 hts gX9_odds_X9_in rfl rfl rfl (by decide +kernel) ⟨Nat.le_of_ble_eq_true rfl, Nat.le_of_ble_eq_true rfl⟩) rfl hl.1 rfl (Nat.le_of_ble_eq_true rfl) dX9_odds_10 ⟨Nat.zero_le _, Nat.zero_le _⟩ (fun r4 H locs f4 hP1 hS1 => ?_)
    replace hP := hP1
    replace hS := hS1
    clear hP1 hS1
    refine lv_if_eq (tgt := 25) hx hb dX9_odds_13 (by decide) (fun c5 => ?_) (fun c5 => ?_)
    · have c5 := zz_eqT c5
      refine lv_aload_n hx hb dX9_odds_25 rfl (lv_at hl 0 rfl) ?_
      refine lv_ldc (v := (-1000000001)) hx hb hown (hts (.constant RX9 93 (-1000000001)) (List.mem_cons_of_mem _ bm_138)) dX9_odds_26 ?_
      refine zz_callVi (As := [.int (-1000000001)]) (rest := []) ⟨hx, hb, hml, hown, hts⟩ hK hP hS (c_X9_error l E σ h0 (-1000000001) g0 (by omega)) (cwV 1 hts gX9_odds_X9_error rfl rfl rfl (by decide +kernel) ⟨Nat.le_of_ble_eq_true rfl, Nat.le_of_ble_eq_true rfl⟩) (g0.1) rfl rfl hl.1 rfl (Nat.le_of_ble_eq_true rfl) dX9_odds_28 ⟨Nat.zero_le _, Nat.zero_le _⟩ (fun r6 σ6 H locs q6 hP1 hS1 => ?_)
      replace hP := hP1
      replace hS := hS1
      clear hP1 hS1
      try dsimp only at q6
      obtain ⟨w6, f6⟩ := q6
      replace hC := hC.tr (w6.mono (dS23_1 h0))
      replace t0 : σ6 (h0 + 1) 2 = σ (h0 + 1) 2 := (w6 (h0 + 1) 2 (dS23_2 h0)).trans t0
      replace t1 : σ6 (h0 + 1) 3 = σ (h0 + 1) 3 := (w6 (h0 + 1) 3 (dS23_2 h0)).trans t1
      replace t2 : σ6 (h0 + 1) 0 = σ (h0 + 1) 0 := (w6 (h0 + 1) 0 (dS23_2 h0)).trans t2
      exact zz_iret hx hb hr hlocks hK hP hS dX9_odds_31 (by exact ⟨hC, Or.inl ⟨by omega, by omega⟩⟩)
    · have c5 := zz_neT c5
      refine lv_iload_n hx hb dX9_odds_16 rfl (lv_at hl 3 rfl) ?_
      refine lv_iconst (v := 0) hx hb dX9_odds_17 (by decide) ?_
      refine lv_iconst (v := 1) hx hb dX9_odds_18 (by decide) ?_
      refine zz_callSp (As := [.int part, .int 0, .int 1]) (rest := []) ⟨hx, hb, hml, hown, hts⟩ hK hP hS (c_X9_in l E σ part 0 1) (va_cwS 3 hts gX9_odds_X9_in rfl rfl rfl (by decide +kernel) ⟨Nat.le_of_ble_eq_true rfl, Nat.le_of_ble_eq_true rfl⟩) rfl hl.1 rfl (Nat.le_of_ble_eq_true rfl) dX9_odds_19 ⟨Nat.zero_le _, Nat.zero_le _⟩ (fun r7 H locs f7 hP1 hS1 => ?_)
      replace hP := hP1
      replace hS := hS1
      clear hP1 hS1
      refine lv_if_ne (tgt := 32) hx hb dX9_odds_22 (by decide) (fun c8 => ?_) (fun c8 => ?_)
      · have c8 := zz_neT c8
        refine lv_aload_n hx hb dX9_odds_32 rfl (lv_at hl 0 rfl) ?_
        refine lv_iload_n hx hb dX9_odds_33 rfl (lv_at hl 1 rfl) ?_
        refine lv_iload_n hx hb dX9_odds_34 rfl (lv_at hl 2 rfl) ?_
        refine lv_bipush (v := 48) hx hb dX9_odds_35 (by decide) ?_
        refine zz_callVi (As := [.int mt, .int ru, .int 48]) (rest := []) ⟨hx, hb, hml, hown, hts⟩ hK hP hS (c_X9_hoursUnder l E σ h0 mt ru 48 g0 (by omega) (by exact hI) K (by exact hW)) (cwV 3 hts gX9_odds_X9_hoursUnder rfl rfl rfl (by decide +kernel) ⟨Nat.le_of_ble_eq_true rfl, Nat.le_of_ble_eq_true rfl⟩) (g0.1) rfl rfl hl.1 rfl (Nat.le_of_ble_eq_true rfl) dX9_odds_37 ⟨Nat.zero_le _, Nat.zero_le _⟩ (fun r9 σ9 H locs q9 hP1 hS1 => ?_)
        replace hP := hP1
        replace hS := hS1
        clear hP1 hS1
        try dsimp only at q9
        obtain ⟨w9, f9⟩ := q9
        replace hC := hC.tr (w9.mono (dS23_3 h0))
        replace t0 : σ9 (h0 + 1) 2 = σ (h0 + 1) 2 := (w9 (h0 + 1) 2 (dS23_4 h0)).trans t0
        replace t1 : σ9 (h0 + 1) 3 = σ (h0 + 1) 3 := (w9 (h0 + 1) 3 (dS23_4 h0)).trans t1
        replace t2 : σ9 (h0 + 1) 0 = σ (h0 + 1) 0 := (w9 (h0 + 1) 0 (dS23_4 h0)).trans t2
        have hX : zz_hid (r9.toInt = zy_hu K (σ (h0 + 1) 0).toInt mt.toInt ru.toInt 48) := f9
        have hXr := zy_hu_rng K (σ (h0 + 1) 0).toInt mt.toInt ru.toInt 48
        rw [show zy_hu K (σ (h0 + 1) 0).toInt mt.toInt ru.toInt 48 = r9.toInt from (show _ = _ from hX).symm] at hXr
        clear f9
        obtain ⟨X9, hX9⟩ : ∃ X : Int × Int, zz_hid (zy_ab 48 r9.toInt 48 = X) := ⟨_, rfl⟩
        refine lv_istore (lv' := [(4, .int r9), (0, .ref h0), (1, .int mt), (2, .int ru), (3, .int part)]) hx hb dX9_odds_40 hl (by decide) rfl (fun ls hl => ?_)
        refine lv_bipush (v := 48) hx hb dX9_odds_42 (by decide) ?_
        refine lv_istore (lv' := [(5, .int 48), (4, .int r9), (0, .ref h0), (1, .int mt), (2, .int ru), (3, .int part)]) hx hb dX9_odds_44 hl (by decide) rfl (fun ls hl => ?_)
        refine lv_bipush (v := 48) hx hb dX9_odds_46 (by decide) ?_
        refine lv_istore (lv' := [(6, .int 48), (5, .int 48), (4, .int r9), (0, .ref h0), (1, .int mt), (2, .int ru), (3, .int part)]) hx hb dX9_odds_48 hl (by decide) rfl (fun ls hl => ?_)
        have J50 : ∀ (n : Nat) (ab : Int32) (bl : Int32) (by9 : Int32) (H : Heap) (locs : List Loc) (ls : Array Slot), (by9.toInt.toNat) < n → (0 ≤ by9.toInt ∧ by9.toInt ≤ 48) → ((0 ≤ ab.toInt ∧ ab.toInt ≤ 48) ∧ 0 ≤ bl.toInt ∧ bl.toInt ≤ 48) → (zz_hid (zy_ab by9.toInt.toNat ab.toInt bl.toInt = X9)) → zz_P E σ9 H → va_S (zz_A E) s.heap H locs → lv_has ls 7 [(6, .int by9), (5, .int bl), (4, .int ab), (0, .ref h0), (1, .int mt), (2, .int ru), (3, .int part)] → W p l e (headSpec wzX9_odds ({ frames := 7, cells := 0, slots := 0, locals := 169 })).room s m args below meth c H locs 0 0 (MQ below (va_Qi (fun r σ1 => zz_ch (fun a k => (a = h0 + 3 ∨ (h0 + 7 ≤ a ∧ a ≤ h0 + 11))) σ σ1 ∧ (zy_p25 K (σ (h0 + 1) 0).toInt mt.toInt ru.toInt part.toInt r)) (zz_B E) (zz_A E)) args s 0 0 (zz_A E)) (F0 m 50 ls []) := by
          intro n
          induction n with
          | zero => intro ab bl by9 H locs ls hm; exact absurd hm (Nat.not_lt_zero _)
          | succ n ih50 =>
            intro ab bl by9 H locs ls hm f50_0 f50_1 f50_2 hP hS hl
            refine lv_iload hx hb dX9_odds_50 (lv_at hl 0 rfl) ?_
            refine lv_iconst (v := 1) hx hb dX9_odds_52 (by decide) ?_
            refine lv_icmp_le (tgt := 92) hx hb dX9_odds_53 (by decide) (fun c10 => ?_) (fun c10 => ?_)
            · have c10 := zz_leT c10
              refine lv_iload_n hx hb dX9_odds_92 rfl (lv_at hl 6 rfl) ?_
              refine lv_if_ne (tgt := 101) hx hb dX9_odds_93 (by decide) (fun c11 => ?_) (fun c11 => ?_)
              · have c11 := zz_neT c11
                refine lv_iload hx hb dX9_odds_101 (lv_at hl 1 rfl) ?_
                have g := zy_ab_1 (c := by9.toInt.toNat) (by omega) f50_2
                have g2 := (zy_ab_gd (X := r9.toInt) (by omega)).1
                rw [show zy_ab 48 r9.toInt 48 = X9 from hX9, g, show r9.toInt = zy_hu K (σ (h0 + 1) 0).toInt mt.toInt ru.toInt 48 from hX] at g2
                exact zz_iret hx hb hr hlocks hK hP hS dX9_odds_103 (by exact ⟨hC, Or.inr (Or.inr ⟨by omega, congrArg Prod.snd g2⟩)⟩)
              · have c11 := zz_eqT c11
                refine lv_iload hx hb dX9_odds_96 (lv_at hl 2 rfl) ?_
                refine lv_goto (tgt := 103) hx hb dX9_odds_98 (by decide) ?_
                have g := zy_ab_1 (c := by9.toInt.toNat) (by omega) f50_2
                have g2 := (zy_ab_gd (X := r9.toInt) (by omega)).1
                rw [show zy_ab 48 r9.toInt 48 = X9 from hX9, g, show r9.toInt = zy_hu K (σ (h0 + 1) 0).toInt mt.toInt ru.toInt 48 from hX] at g2
                exact zz_iret hx hb hr hlocks hK hP hS dX9_odds_103 (by exact ⟨hC, Or.inr (Or.inl ⟨by omega, congrArg Prod.fst g2⟩)⟩)
            · have c10 := zz_nleT c10
              refine lv_iload hx hb dX9_odds_56 (lv_at hl 2 rfl) ?_
              refine lv_iload hx hb dX9_odds_58 (lv_at hl 0 rfl) ?_
              refine lv_irem hx hb dX9_odds_60 (zz_ne0 (by omega)) ?_
              refine lv_topi (fun n12 e12 => ?_)
              have m9a := zz_remT by9.toInt e12 ⟨rfl, by omega⟩ (by omega)
              refine lv_if_ne (tgt := 86) hx hb dX9_odds_61 (by decide) (fun c13 => ?_) (fun c13 => ?_)
              · have c13 := zz_neT c13
                obtain ⟨n14, e14⟩ : ∃ y : Int32, y = by9 + (-1) := ⟨_, rfl⟩
                have f14 : n14.toInt = (by9).toInt + (-1) := by have h9 := zz_addT e14 (by omega) (by omega); omega
                refine lv_iinc (v := n14) (lv' := [(6, .int n14), (5, .int bl), (4, .int ab), (0, .ref h0), (1, .int mt), (2, .int ru), (3, .int part)]) hx hb dX9_odds_86 hl (k := 0) rfl (by rw [e14]; rfl) (by decide) rfl (fun ls hl => ?_)
                refine lv_goto (tgt := 50) hx hb dX9_odds_89 (by decide) ?_
                exact ih50 ab bl n14 _ _ _ (by omega) (by first | omega | exact hI | exact hT) (by first | omega | exact hI | exact hT) (by exact zy_ab_go (c := by9.toInt.toNat) (by omega) (by rw [show ((by9.toInt.toNat : Nat) : Int) = by9.toInt from by omega]; omega) f50_2 (by omega) rfl rfl) hP hS (lv_sub hl [0, 1, 2, 3, 4, 5, 6] rfl)
              · have c13 := zz_eqT c13
                refine lv_iload hx hb dX9_odds_64 (lv_at hl 1 rfl) ?_
                refine lv_iload hx hb dX9_odds_66 (lv_at hl 0 rfl) ?_
                refine lv_irem hx hb dX9_odds_68 (zz_ne0 (by omega)) ?_
                refine lv_topi (fun n15 e15 => ?_)
                have m9b := zz_remT by9.toInt e15 ⟨rfl, by omega⟩ (by omega)
                refine lv_if_ne (tgt := 86) hx hb dX9_odds_69 (by decide) (fun c16 => ?_) (fun c16 => ?_)
                · have c16 := zz_neT c16
                  obtain ⟨n17, e17⟩ : ∃ y : Int32, y = by9 + (-1) := ⟨_, rfl⟩
                  have f17 : n17.toInt = (by9).toInt + (-1) := by have h9 := zz_addT e17 (by omega) (by omega); omega
                  refine lv_iinc (v := n17) (lv' := [(6, .int n17), (5, .int bl), (4, .int ab), (0, .ref h0), (1, .int mt), (2, .int ru), (3, .int part)]) hx hb dX9_odds_86 hl (k := 0) rfl (by rw [e17]; rfl) (by decide) rfl (fun ls hl => ?_)
                  refine lv_goto (tgt := 50) hx hb dX9_odds_89 (by decide) ?_
                  exact ih50 ab bl n17 _ _ _ (by omega) (by first | omega | exact hI | exact hT) (by first | omega | exact hI | exact hT) (by exact zy_ab_go (c := by9.toInt.toNat) (by omega) (by rw [show ((by9.toInt.toNat : Nat) : Int) = by9.toInt from by omega]; omega) f50_2 (by omega) rfl rfl) hP hS (lv_sub hl [0, 1, 2, 3, 4, 5, 6] rfl)
                · have c16 := zz_eqT c16
                  refine lv_iload hx hb dX9_odds_72 (lv_at hl 2 rfl) ?_
                  refine lv_iload hx hb dX9_odds_74 (lv_at hl 0 rfl) ?_
                  refine lv_idiv hx hb dX9_odds_76 (zz_ne0 (by omega)) ?_
                  refine lv_topi (fun n18 e18 => ?_)
                  have d9a := zz_divT by9.toInt e18 ⟨rfl, by omega⟩ (by omega)
                  have d9ar : 0 ≤ n18.toInt ∧ n18.toInt ≤ 48 := by rw [d9a]; exact ⟨Int.ediv_nonneg (by omega) (by omega), Int.le_trans (Int.ediv_le_self _ (by omega)) (by omega)⟩
                  refine lv_istore (lv' := [(4, .int n18), (6, .int by9), (5, .int bl), (0, .ref h0), (1, .int mt), (2, .int ru), (3, .int part)]) hx hb dX9_odds_77 hl (by decide) rfl (fun ls hl => ?_)
                  refine lv_iload hx hb dX9_odds_79 (lv_at hl 2 rfl) ?_
                  refine lv_iload hx hb dX9_odds_81 (lv_at hl 1 rfl) ?_
                  refine lv_idiv hx hb dX9_odds_83 (zz_ne0 (by omega)) ?_
                  refine lv_topi (fun n19 e19 => ?_)
                  have d9b := zz_divT by9.toInt e19 ⟨rfl, by omega⟩ (by omega)
                  have d9br : 0 ≤ n19.toInt ∧ n19.toInt ≤ 48 := by rw [d9b]; exact ⟨Int.ediv_nonneg (by omega) (by omega), Int.le_trans (Int.ediv_le_self _ (by omega)) (by omega)⟩
                  refine lv_istore (lv' := [(5, .int n19), (4, .int n18), (6, .int by9), (0, .ref h0), (1, .int mt), (2, .int ru), (3, .int part)]) hx hb dX9_odds_84 hl (by decide) rfl (fun ls hl => ?_)
                  obtain ⟨n20, e20⟩ : ∃ y : Int32, y = by9 + (-1) := ⟨_, rfl⟩
                  have f20 : n20.toInt = (by9).toInt + (-1) := by have h9 := zz_addT e20 (by omega) (by omega); omega
                  refine lv_iinc (v := n20) (lv' := [(6, .int n20), (5, .int n19), (4, .int n18), (0, .ref h0), (1, .int mt), (2, .int ru), (3, .int part)]) hx hb dX9_odds_86 hl (k := 2) rfl (by rw [e20]; rfl) (by decide) rfl (fun ls hl => ?_)
                  refine lv_goto (tgt := 50) hx hb dX9_odds_89 (by decide) ?_
                  exact ih50 n18 n19 n20 _ _ _ (by omega) (by first | omega | exact hI | exact hT) (by first | omega | exact hI | exact hT) (by exact zy_ab_div (c := by9.toInt.toNat) (by omega) (by rw [show ((by9.toInt.toNat : Nat) : Int) = by9.toInt from by omega]; omega) (by rw [show ((by9.toInt.toNat : Nat) : Int) = by9.toInt from by omega]; omega) f50_2 (by omega) (by rw [show ((by9.toInt.toNat : Nat) : Int) = by9.toInt from by omega]; exact d9a) (by rw [show ((by9.toInt.toNat : Nat) : Int) = by9.toInt from by omega]; exact d9b)) hP hS (lv_sub hl [0, 1, 2, 3, 4, 5, 6] rfl)
        exact J50 _ r9 48 48 _ _ _ (Nat.lt_succ_self _) (by first | omega | exact hI | exact hT) (by first | omega | exact hI | exact hT) (by exact hX9) hP hS (lv_sub hl [0, 1, 2, 3, 4, 5, 6] rfl)
      · have c8 := zz_eqT c8
        refine lv_aload_n hx hb dX9_odds_25 rfl (lv_at hl 0 rfl) ?_
        refine lv_ldc (v := (-1000000001)) hx hb hown (hts (.constant RX9 93 (-1000000001)) (List.mem_cons_of_mem _ bm_138)) dX9_odds_26 ?_
        refine zz_callVi (As := [.int (-1000000001)]) (rest := []) ⟨hx, hb, hml, hown, hts⟩ hK hP hS (c_X9_error l E σ h0 (-1000000001) g0 (by omega)) (cwV 1 hts gX9_odds_X9_error rfl rfl rfl (by decide +kernel) ⟨Nat.le_of_ble_eq_true rfl, Nat.le_of_ble_eq_true rfl⟩) (g0.1) rfl rfl hl.1 rfl (Nat.le_of_ble_eq_true rfl) dX9_odds_28 ⟨Nat.zero_le _, Nat.zero_le _⟩ (fun r21 σ21 H locs q21 hP1 hS1 => ?_)
        replace hP := hP1
        replace hS := hS1
        clear hP1 hS1
        try dsimp only at q21
        obtain ⟨w21, f21⟩ := q21
        replace hC := hC.tr (w21.mono (dS23_1 h0))
        replace t0 : σ21 (h0 + 1) 2 = σ (h0 + 1) 2 := (w21 (h0 + 1) 2 (dS23_2 h0)).trans t0
        replace t1 : σ21 (h0 + 1) 3 = σ (h0 + 1) 3 := (w21 (h0 + 1) 3 (dS23_2 h0)).trans t1
        replace t2 : σ21 (h0 + 1) 0 = σ (h0 + 1) 0 := (w21 (h0 + 1) 0 (dS23_2 h0)).trans t2
        exact zz_iret hx hb hr hlocks hK hP hS dX9_odds_31 (by exact ⟨hC, Or.inl ⟨by omega, by omega⟩⟩)
theorem gX9_fits_X9_notThere : GoodIn wzX9_fits (wsV RX9 211 RX9 yX9_notThere wzX9_notThere) := wz_co bm_777 (wz_co bm_778 (wz_co bm_779 (wz_co bm_5 (wz_in bm_780))))
theorem gX9_fits_X9_error : GoodIn wzX9_fits (wsV RX9 94 RX9 yX9_error wzX9_error) := wz_co bm_146 (wz_co bm_147 (wz_co bm_148 (wz_co bm_5 (wz_in bm_149))))
theorem gX9_fits_X9_rightOf : GoodIn wzX9_fits (wsV RX9 214 RX9 yX9_rightOf wzX9_rightOf) := wz_co bm_784 (wz_co bm_785 (wz_co bm_786 (wz_co bm_5 (wz_in bm_787))))
set_option maxHeartbeats 4000000 in
set_option maxRecDepth 100000 in
theorem c_X9_fits (l : Launch) (E : zz_E) (σ : zz_S) (h0 : Nat) (sh : Int32) (g0 : zz_M E h0) (hJ : zz_IM σ h0) (K : zy_W) (hW : zy_YW σ (h0 + 1) K) : Met l yX9_fits wzX9_fits ({ frames := 7, cells := 0, slots := 0, locals := 167 }) (va_Pc [.ref h0, .int sh] (zz_B E σ)) (va_Qi (fun r σ1 => zz_ch (fun a k => (a = h0 + 3 ∨ (h0 + 7 ≤ a ∧ a ≤ h0 + 11))) σ σ1 ∧ (zy_p26 (zz_HM σ (h0 + 4)) (zz_HM σ (h0 + 5)) (zz_CM σ (h0 + 6)) K (σ (h0 + 1) 0).toInt sh.toInt r)) (zz_B E) (zz_A E)) 0 0 (zz_A E) := by
  refine zz_met (cc := cX9_fits) (maxL := 4) (ret := (some .int)) (by decide) rfl (Nat.le_of_ble_eq_true rfl) ?_
  intro p e s m args below meth c ls hx hb hr hts hown hlocks hml hK hP hS hl
  have hl : lv_has ls 4 [(0, .ref h0), (1, .int sh)] := hl
  have hown : s.vm.findClass RX9 = some m.cls := hown
  have hi9 : ∀ w ∈ wsX90, w ∈ wzX9_fits := fun w h => List.mem_cons_of_mem _ (hbw9 w h)
  have k_m1000000002 : ((-1000000002) : Int32).toInt = -1000000002 := by decide +kernel
  have k_0 : (0 : Int32).toInt = 0 := by decide +kernel
  have k_1 : (1 : Int32).toInt = 1 := by decide +kernel
  have k_240 : (240 : Int32).toInt = 240 := by decide +kernel
  replace t0 : σ (h0 + 1) 2 = σ (h0 + 1) 2 := rfl
  replace t1 : σ (h0 + 1) 3 = σ (h0 + 1) 3 := rfl
  replace t2 : σ (h0 + 1) 0 = σ (h0 + 1) 0 := rfl
  have hC : zz_ch (fun a k => (a = h0 + 3 ∨ (h0 + 7 ≤ a ∧ a ≤ h0 + 11))) σ σ := zz_ch.rf σ
  have hI := hJ.1
  obtain ⟨hh, hsl, hd, hp, htc, hwc, hM, hT⟩ := id hI
  have hz5 := hJ.2.2.1
  have htr := hJ.2.2.2
  have hct := hW.2.1
  obtain ⟨X9, hX9⟩ : ∃ X : Int, zz_hid (zy_fi (fun i : Nat => ((zy_rt (zy_ro (zz_CM σ (h0 + 6)) K ((σ (h0 + 1) 0).toInt + (i : Int)) sh.toInt.toNat) (min (zz_HM σ (h0 + 5) sh.toInt.toNat) 10).toNat 0 : Nat) : Int) = zz_HM σ (h0 + 5) sh.toInt.toNat) 241 0 = X) := ⟨_, rfl⟩
  refine lv_aload_n hx hb dX9_fits_0 rfl (lv_at hl 0 rfl) ?_
  refine lv_iload_n hx hb dX9_fits_1 rfl (lv_at hl 1 rfl) ?_
  refine zz_callVp (As := [.int sh]) (rest := []) ⟨hx, hb, hml, hown, hts⟩ hK hP hS (c_X9_notThere l E σ h0 sh g0) (cwV 1 hts gX9_fits_X9_notThere rfl rfl rfl (by decide +kernel) ⟨Nat.le_of_ble_eq_true rfl, Nat.le_of_ble_eq_true rfl⟩) (g0.1) rfl rfl hl.1 rfl (Nat.le_of_ble_eq_true rfl) dX9_fits_2 ⟨Nat.zero_le _, Nat.zero_le _⟩ (fun r1 H locs f1 hP1 hS1 => ?_)
  replace hP := hP1
  replace hS := hS1
  clear hP1 hS1
  skip
  refine lv_istore_n (lv' := [(2, .int r1), (0, .ref h0), (1, .int sh)]) hx hb dX9_fits_5 rfl hl (by decide) rfl (fun ls hl => ?_)
  refine lv_iload_n hx hb dX9_fits_6 rfl (lv_at hl 0 rfl) ?_
  refine lv_if_eq (tgt := 16) hx hb dX9_fits_7 (by decide) (fun c2 => ?_) (fun c2 => ?_)
  · have c2 := zz_eqT c2
    have J53 : ∀ (iz : Int32) (σz : zz_S) (H : Heap) (locs : List Loc) (ls : Array Slot),  (zz_ch (fun a k => (a = h0 + 3 ∨ (h0 + 7 ≤ a ∧ a ≤ h0 + 11))) σ σz) → (0 ≤ iz.toInt ∧ iz.toInt ≤ 241) → ((iz.toInt = 241 ∧ X9 = -1000000002) ∨ (iz.toInt ≤ 240 ∧ zz_HM σ (h0 + 5) sh.toInt.toNat ≤ 10 ∧ X9 = iz.toInt)) → (σz (h0 + 1) 2 = σ (h0 + 1) 2) → (σz (h0 + 1) 3 = σ (h0 + 1) 3) → (σz (h0 + 1) 0 = σ (h0 + 1) 0) → zz_P E σz H → va_S (zz_A E) s.heap H locs → lv_has ls 4 [(2, .int r1), (0, .ref h0), (1, .int sh), (3, .int iz)] → W p l e (headSpec wzX9_fits ({ frames := 7, cells := 0, slots := 0, locals := 167 })).room s m args below meth c H locs 0 0 (MQ below (va_Qi (fun r σ1 => zz_ch (fun a k => (a = h0 + 3 ∨ (h0 + 7 ≤ a ∧ a ≤ h0 + 11))) σ σ1 ∧ (zy_p26 (zz_HM σ (h0 + 4)) (zz_HM σ (h0 + 5)) (zz_CM σ (h0 + 6)) K (σ (h0 + 1) 0).toInt sh.toInt r)) (zz_B E) (zz_A E)) args s 0 0 (zz_A E)) (F0 m 53 ls []) := by
      intro iz σz H locs ls hC f53_0 f53_1 t0 t1 t2 hP hS hl
      refine lv_iload_n hx hb dX9_fits_53 rfl (lv_at hl 3 rfl) ?_
      refine lv_sipush (v := 240) hx hb dX9_fits_54 (by decide) ?_
      refine lv_icmp_le (tgt := 69) hx hb dX9_fits_57 (by decide) (fun c3 => ?_) (fun c3 => ?_)
      · have c3 := zz_leT c3
        refine lv_iload_n hx hb dX9_fits_69 rfl (lv_at hl 3 rfl) ?_
        by_cases q9 : 10 < zz_HM σ (h0 + 5) sh.toInt.toNat
        · exact zz_iret hx hb hr hlocks hK hP hS dX9_fits_70 (by exact ⟨hC, Or.inr (Or.inl ⟨by omega, by omega⟩)⟩)
        · exact zz_iret hx hb hr hlocks hK hP hS dX9_fits_70 (by exact ⟨hC, Or.inr (Or.inr (⟨by omega, (show iz.toInt = X9 by omega).trans (show _ = X9 from hX9).symm⟩))⟩)
      · have c3 := zz_nleT c3
        refine lv_aload_n hx hb dX9_fits_60 rfl (lv_at hl 1 rfl) ?_
        refine lv_ldc (v := (-1000000002)) hx hb hown (hts (.constant RX9 198 (-1000000002)) (List.mem_cons_of_mem _ bm_687)) dX9_fits_61 ?_
        refine zz_callVi (As := [.int (-1000000002)]) (rest := []) ⟨hx, hb, hml, hown, hts⟩ hK hP hS (c_X9_error l E σz h0 (-1000000002) g0 (by omega)) (cwV 1 hts gX9_fits_X9_error rfl rfl rfl (by decide +kernel) ⟨Nat.le_of_ble_eq_true rfl, Nat.le_of_ble_eq_true rfl⟩) (g0.1) rfl rfl hl.1 rfl (Nat.le_of_ble_eq_true rfl) dX9_fits_63 ⟨Nat.zero_le _, Nat.zero_le _⟩ (fun r4 σ4 H locs q4 hP1 hS1 => ?_)
        replace hP := hP1
        replace hS := hS1
        clear hP1 hS1
        try dsimp only at q4
        obtain ⟨w4, f4⟩ := q4
        replace hC := hC.tr (w4.mono (dS23_1 h0))
        try simp only [t0, t1, t2] at f4
        replace t0 : σ4 (h0 + 1) 2 = σ (h0 + 1) 2 := (w4 (h0 + 1) 2 (dS23_2 h0)).trans t0
        replace t1 : σ4 (h0 + 1) 3 = σ (h0 + 1) 3 := (w4 (h0 + 1) 3 (dS23_2 h0)).trans t1
        replace t2 : σ4 (h0 + 1) 0 = σ (h0 + 1) 0 := (w4 (h0 + 1) 0 (dS23_2 h0)).trans t2
        refine lv_goto (tgt := 70) hx hb dX9_fits_66 (by decide) ?_
        by_cases q9 : 10 < zz_HM σ (h0 + 5) sh.toInt.toNat
        · exact zz_iret hx hb hr hlocks hK hP hS dX9_fits_70 (by exact ⟨hC, Or.inr (Or.inl ⟨by omega, by omega⟩)⟩)
        · exact zz_iret hx hb hr hlocks hK hP hS dX9_fits_70 (by exact ⟨hC, Or.inr (Or.inr (⟨by omega, (show r4.toInt = X9 by omega).trans (show _ = X9 from hX9).symm⟩))⟩)
    refine lv_iconst (v := 0) hx hb dX9_fits_16 (by decide) ?_
    refine lv_istore_n (lv' := [(3, .int 0), (2, .int r1), (0, .ref h0), (1, .int sh)]) hx hb dX9_fits_17 rfl hl (by decide) rfl (fun ls hl => ?_)
    have J18 : ∀ (n : Nat) (ii : Int32) (σa : zz_S) (H : Heap) (locs : List Loc) (ls : Array Slot), ((241 - ii.toInt).toNat) < n → (zz_ch (fun a k => (a = h0 + 3 ∨ (h0 + 7 ≤ a ∧ a ≤ h0 + 11))) σ σa) → (0 ≤ ii.toInt ∧ ii.toInt ≤ 241) → (zz_hid (zy_fi (fun i : Nat => ((zy_rt (zy_ro (zz_CM σ (h0 + 6)) K ((σ (h0 + 1) 0).toInt + (i : Int)) sh.toInt.toNat) (min (zz_HM σ (h0 + 5) sh.toInt.toNat) 10).toNat 0 : Nat) : Int) = zz_HM σ (h0 + 5) sh.toInt.toNat) (241 - ii.toInt.toNat) ii.toInt.toNat = X9)) → (σa (h0 + 1) 2 = σ (h0 + 1) 2) → (σa (h0 + 1) 3 = σ (h0 + 1) 3) → (σa (h0 + 1) 0 = σ (h0 + 1) 0) → zz_P E σa H → va_S (zz_A E) s.heap H locs → lv_has ls 4 [(3, .int ii), (2, .int r1), (0, .ref h0), (1, .int sh)] → W p l e (headSpec wzX9_fits ({ frames := 7, cells := 0, slots := 0, locals := 167 })).room s m args below meth c H locs 0 0 (MQ below (va_Qi (fun r σ1 => zz_ch (fun a k => (a = h0 + 3 ∨ (h0 + 7 ≤ a ∧ a ≤ h0 + 11))) σ σ1 ∧ (zy_p26 (zz_HM σ (h0 + 4)) (zz_HM σ (h0 + 5)) (zz_CM σ (h0 + 6)) K (σ (h0 + 1) 0).toInt sh.toInt r)) (zz_B E) (zz_A E)) args s 0 0 (zz_A E)) (F0 m 18 ls []) := by
      intro n
      induction n with
      | zero => intro ii σa H locs ls hm; exact absurd hm (Nat.not_lt_zero _)
      | succ n ih18 =>
        intro ii σa H locs ls hm hC f18_0 f18_1 t0 t1 t2 hP hS hl
        have eC9 := zz_CM.eq (σ := σ) (σ1 := σa) (a := h0 + 6) (fun k hk => hC _ _ (by first | (dsimp only; omega) | omega))
        have eH9 := zz_HM.eq (σ := σ) (σ1 := σa) (a := h0 + 5) (fun j hj => hC _ _ (by first | (dsimp only; omega) | omega))
        refine lv_iload_n hx hb dX9_fits_18 rfl (lv_at hl 0 rfl) ?_
        refine lv_sipush (v := 240) hx hb dX9_fits_19 (by decide) ?_
        refine lv_icmp_gt (tgt := 53) hx hb dX9_fits_22 (by decide) (fun c5 => ?_) (fun c5 => ?_)
        · have c5 := zz_ltT c5
          exact J53 ii σa _ _ _ hC (by first | omega | exact hI | exact hT) (by have g := zy_fi_end f18_1 (by omega); exact Or.inl ⟨by omega, by omega⟩) t0 t1 t2 hP hS (lv_sub hl [1, 2, 3, 0] rfl)
        · have c5 := zz_nltT c5
          refine lv_aload_n hx hb dX9_fits_25 rfl (lv_at hl 2 rfl) ?_
          refine lv_iload_n hx hb dX9_fits_26 rfl (lv_at hl 3 rfl) ?_
          refine lv_aload_n hx hb dX9_fits_27 rfl (lv_at hl 2 rfl) ?_
          refine zz_getr hx hb hts hi9 hown hK hP (g0.1) rfl 0 (by decide) (hts (.fieldLink RX9 9 "NoonLawModel" "row" "[I") (List.mem_cons_of_mem _ bm_93)) rfl rfl dX9_fits_28 ?_
          refine lv_iconst (v := 0) hx hb dX9_fits_31 (by decide) ?_
          refine zz_ialc hx hb hK hP (g0.2.1) 0 (by decide) (by decide) t2 dX9_fits_32 ?_
          refine lv_iload_n hx hb dX9_fits_33 rfl (lv_at hl 0 rfl) ?_
          refine lv_iadd hx hb dX9_fits_34 ?_
          refine lv_topi (fun n7 e7 => ?_)
          have f7 : n7.toInt = (σ (h0 + 1) 0).toInt + (ii).toInt := zz_addT e7 (by omega) (by omega)
          refine zz_callVi (As := [.int sh, .int n7]) (rest := []) ⟨hx, hb, hml, hown, hts⟩ hK hP hS (c_X9_rightOf l E σa h0 sh n7 g0 (by omega) (by first | omega | exact hI | exact hT) (by intro j hj; rw [hC _ _ (by first | (dsimp only; omega) | omega)]; exact hz5 j hj) (by exact hI.keep (fun k => hC _ _ (by first | (dsimp only; omega) | omega))) K (by exact hW.keep (fun k q => hC _ _ (by first | (dsimp only; omega) | omega)))) (cwV 2 hts gX9_fits_X9_rightOf rfl rfl rfl (by decide +kernel) ⟨Nat.le_of_ble_eq_true rfl, Nat.le_of_ble_eq_true rfl⟩) (g0.1) rfl rfl hl.1 rfl (Nat.le_of_ble_eq_true rfl) dX9_fits_35 ⟨Nat.zero_le _, Nat.zero_le _⟩ (fun r8 σ8 H locs q8 hP1 hS1 => ?_)
          replace hP := hP1
          replace hS := hS1
          clear hP1 hS1
          try dsimp only at q8
          obtain ⟨w8, f8⟩ := q8
          replace hC := hC.tr (w8.mono (dS23_3 h0))
          try simp only [t0, t1, t2] at f8
          replace t0 : σ8 (h0 + 1) 2 = σ (h0 + 1) 2 := (w8 (h0 + 1) 2 (dS23_4 h0)).trans t0
          replace t1 : σ8 (h0 + 1) 3 = σ (h0 + 1) 3 := (w8 (h0 + 1) 3 (dS23_4 h0)).trans t1
          replace t2 : σ8 (h0 + 1) 0 = σ (h0 + 1) 0 := (w8 (h0 + 1) 0 (dS23_4 h0)).trans t2
          have hr9 := f8
          rw [show n7.toInt = (σ (h0 + 1) 0).toInt + ((ii.toInt.toNat : Nat) : Int) from by omega, eC9, eH9] at hr9
          have hr8 : r8.toInt = ((zy_rt (zy_ro (zz_CM σ (h0 + 6)) K ((σ (h0 + 1) 0).toInt + ((ii.toInt.toNat : Nat) : Int)) sh.toInt.toNat) (min (zz_HM σ (h0 + 5) sh.toInt.toNat) 10).toNat 0 : Nat) : Int) := hr9.1
          have hr7 := hr9.2
          refine lv_aload_n hx hb dX9_fits_38 rfl (lv_at hl 2 rfl) ?_
          refine zz_getr hx hb hts hi9 hown hK hP (g0.1) rfl 5 (by decide) (hts (.fieldLink RX9 22 "NoonLawModel" "sizeOf" "[I") (List.mem_cons_of_mem _ bm_97)) rfl rfl dX9_fits_39 ?_
          refine lv_iload_n hx hb dX9_fits_42 rfl (lv_at hl 3 rfl) ?_
          refine zz_iald hx hb hK hP (g0.2.2.2.2.2.1) (by omega) (by omega) dX9_fits_43 (fun j9 q9 r9 => ?_)
          have hx5 : zz_HM σ (h0 + 5) sh.toInt.toNat = (σ8 (h0 + 5) j9).toInt := by rw [show σ8 (h0 + 5) j9 = σ (h0 + 5) j9 from hC _ _ (by first | (dsimp only; omega) | omega)]; rw [show sh.toInt.toNat = j9 from by omega]; exact zz_HM.at r9
          refine lv_icmp_ge (tgt := 53) hx hb dX9_fits_44 (by decide) (fun c10 => ?_) (fun c10 => ?_)
          · have c10 := zz_leT c10
            exact J53 ii σ8 _ _ _ hC (by first | omega | exact hI | exact hT) (by have g := zy_fi_hit (P := (fun i : Nat => ((zy_rt (zy_ro (zz_CM σ (h0 + 6)) K ((σ (h0 + 1) 0).toInt + (i : Int)) sh.toInt.toNat) (min (zz_HM σ (h0 + 5) sh.toInt.toNat) 10).toNat 0 : Nat) : Int) = zz_HM σ (h0 + 5) sh.toInt.toNat)) (show ((zy_rt (zy_ro (zz_CM σ (h0 + 6)) K ((σ (h0 + 1) 0).toInt + ((ii.toInt.toNat : Nat) : Int)) sh.toInt.toNat) (min (zz_HM σ (h0 + 5) sh.toInt.toNat) 10).toNat 0 : Nat) : Int) = zz_HM σ (h0 + 5) sh.toInt.toNat by rw [← hr8]; omega) f18_1 (by omega); exact Or.inr ⟨by omega, by omega, by omega⟩) t0 t1 t2 hP hS (lv_sub hl [1, 2, 3, 0] rfl)
          · have c10 := zz_nleT c10
            obtain ⟨n11, e11⟩ : ∃ y : Int32, y = ii + 1 := ⟨_, rfl⟩
            have f11 : n11.toInt = (ii).toInt + (1) := by have h9 := zz_addT e11 (by omega) (by omega); omega
            refine lv_iinc (v := n11) (lv' := [(3, .int n11), (2, .int r1), (0, .ref h0), (1, .int sh)]) hx hb dX9_fits_47 hl (k := 0) rfl (by rw [e11]; rfl) (by decide) rfl (fun ls hl => ?_)
            refine lv_goto (tgt := 18) hx hb dX9_fits_50 (by decide) ?_
            exact ih18 n11 σ8 _ _ _ (by omega) hC (by first | omega | exact hI | exact hT) (by exact zy_fi_go (P := (fun i : Nat => ((zy_rt (zy_ro (zz_CM σ (h0 + 6)) K ((σ (h0 + 1) 0).toInt + (i : Int)) sh.toInt.toNat) (min (zz_HM σ (h0 + 5) sh.toInt.toNat) 10).toNat 0 : Nat) : Int) = zz_HM σ (h0 + 5) sh.toInt.toNat)) (show ¬ (((zy_rt (zy_ro (zz_CM σ (h0 + 6)) K ((σ (h0 + 1) 0).toInt + ((ii.toInt.toNat : Nat) : Int)) sh.toInt.toNat) (min (zz_HM σ (h0 + 5) sh.toInt.toNat) 10).toNat 0 : Nat) : Int) = zz_HM σ (h0 + 5) sh.toInt.toNat) by rw [← hr8]; omega) f18_1 (by omega) (by omega)) t0 t1 t2 hP hS (lv_sub hl [0, 1, 2, 3] rfl)
    exact J18 _ 0 σ _ _ _ (Nat.lt_succ_self _) hC (by first | omega | exact hI | exact hT) (by exact (zy_fi_0 (by omega)).trans hX9) t0 t1 t2 hP hS (lv_sub hl [0, 1, 2, 3] rfl)
  · have c2 := zz_neT c2
    refine lv_aload_n hx hb dX9_fits_10 rfl (lv_at hl 1 rfl) ?_
    refine lv_iload_n hx hb dX9_fits_11 rfl (lv_at hl 0 rfl) ?_
    refine zz_callVi (As := [.int r1]) (rest := []) ⟨hx, hb, hml, hown, hts⟩ hK hP hS (c_X9_error l E σ h0 r1 g0 (by omega)) (cwV 1 hts gX9_fits_X9_error rfl rfl rfl (by decide +kernel) ⟨Nat.le_of_ble_eq_true rfl, Nat.le_of_ble_eq_true rfl⟩) (g0.1) rfl rfl hl.1 rfl (Nat.le_of_ble_eq_true rfl) dX9_fits_12 ⟨Nat.zero_le _, Nat.zero_le _⟩ (fun r12 σ12 H locs q12 hP1 hS1 => ?_)
    replace hP := hP1
    replace hS := hS1
    clear hP1 hS1
    try dsimp only at q12
    obtain ⟨w12, f12⟩ := q12
    replace hC := hC.tr (w12.mono (dS23_1 h0))
    replace t0 : σ12 (h0 + 1) 2 = σ (h0 + 1) 2 := (w12 (h0 + 1) 2 (dS23_2 h0)).trans t0
    replace t1 : σ12 (h0 + 1) 3 = σ (h0 + 1) 3 := (w12 (h0 + 1) 3 (dS23_2 h0)).trans t1
    replace t2 : σ12 (h0 + 1) 0 = σ (h0 + 1) 0 := (w12 (h0 + 1) 0 (dS23_2 h0)).trans t2
    rcases f1 with z | z | z
    · exact zz_iret hx hb hr hlocks hK hP hS dX9_fits_15 (by exact absurd z.1 (by omega))
    · exact zz_iret hx hb hr hlocks hK hP hS dX9_fits_15 (by exact ⟨hC, Or.inl ⟨by omega, by omega⟩⟩)
    · exact zz_iret hx hb hr hlocks hK hP hS dX9_fits_15 (by exact ⟨hC, Or.inr (Or.inl ⟨by omega, by omega⟩)⟩)
theorem gX9_body_X9_in : GoodIn wzX9_body (va_wsS RX9 47 yX9_in wzX9_in) := wz_co bm_143 (wz_co bm_144 (wz_co bm_5 (wz_in bm_145)))
theorem gX9_body_X9_error : GoodIn wzX9_body (wsV RX9 94 RX9 yX9_error wzX9_error) := wz_co bm_146 (wz_co bm_147 (wz_co bm_148 (wz_co bm_5 (wz_in bm_149))))
set_option maxHeartbeats 4000000 in
set_option maxRecDepth 100000 in
theorem c_X9_body (l : Launch) (E : zz_E) (σ : zz_S) (h0 : Nat) (ix : Int32) (g0 : zz_M E h0) (hJ : zz_IM σ h0) : Met l yX9_body wzX9_body ({ frames := 1, cells := 0, slots := 0, locals := 22 }) (va_Pc [.ref h0, .int ix] (zz_B E σ)) (va_Qi (fun r σ1 => zz_ch (fun a k => (a = h0 + 3 ∨ (h0 + 7 ≤ a ∧ a ≤ h0 + 11))) σ σ1 ∧ (((ix.toInt < 0 ∨ (σ h0 18).toInt ≤ ix.toInt) ∧ r.toInt = -1000000002) ∨ (0 ≤ ix.toInt ∧ ix.toInt < (σ h0 18).toInt ∧ r.toInt = zz_TV σ (h0 + 12) ix.toInt.toNat))) (zz_B E) (zz_A E)) 0 0 (zz_A E) := by
  refine zz_met (cc := cX9_body) (maxL := 2) (ret := (some .int)) (by decide) rfl (Nat.le_of_ble_eq_true rfl) ?_
  intro p e s m args below meth c ls hx hb hr hts hown hlocks hml hK hP hS hl
  have hl : lv_has ls 2 [(0, .ref h0), (1, .int ix)] := hl
  have hown : s.vm.findClass RX9 = some m.cls := hown
  have hi9 : ∀ w ∈ wsX90, w ∈ wzX9_body := fun w h => List.mem_cons_of_mem _ (hbw9 w h)
  have k_m1000000002 : ((-1000000002) : Int32).toInt = -1000000002 := by decide +kernel
  have k_0 : (0 : Int32).toInt = 0 := by decide +kernel
  have k_1 : (1 : Int32).toInt = 1 := by decide +kernel
  replace t0 : σ (h0 + 1) 2 = σ (h0 + 1) 2 := rfl
  replace t1 : σ (h0 + 1) 3 = σ (h0 + 1) 3 := rfl
  replace t2 : σ (h0 + 1) 0 = σ (h0 + 1) 0 := rfl
  have hC : zz_ch (fun a k => (a = h0 + 3 ∨ (h0 + 7 ≤ a ∧ a ≤ h0 + 11))) σ σ := zz_ch.rf σ
  have hI := hJ.1
  obtain ⟨hh, hsl, hd, hp, htc, hwc, hM, hT⟩ := id hI
  have hz5 := hJ.2.2.1
  have htr := hJ.2.2.2
  refine lv_iload_n hx hb dX9_body_0 rfl (lv_at hl 1 rfl) ?_
  refine lv_iconst (v := 0) hx hb dX9_body_1 (by decide) ?_
  refine lv_aload_n hx hb dX9_body_2 rfl (lv_at hl 0 rfl) ?_
  refine zz_geti hx hb hts hi9 hown hK hP (g0.1) rfl 18 (by decide) (hts (.fieldLink RX9 217 "NoonLawModel" "traced" "I") (List.mem_cons_of_mem _ bm_827)) rfl rfl rfl dX9_body_3 ?_
  refine lv_iconst (v := 1) hx hb dX9_body_6 (by decide) ?_
  refine lv_isub hx hb dX9_body_7 ?_
  refine lv_topi (fun n1 e1 => ?_)
  have f1 : n1.toInt = (σ h0 18).toInt - (1 : Int32).toInt := zz_subT e1 (by omega) (by omega)
  refine zz_callSp (As := [.int ix, .int 0, .int n1]) (rest := []) ⟨hx, hb, hml, hown, hts⟩ hK hP hS (c_X9_in l E σ ix 0 n1) (va_cwS 3 hts gX9_body_X9_in rfl rfl rfl (by decide +kernel) ⟨Nat.le_of_ble_eq_true rfl, Nat.le_of_ble_eq_true rfl⟩) rfl hl.1 rfl (Nat.le_of_ble_eq_true rfl) dX9_body_8 ⟨Nat.zero_le _, Nat.zero_le _⟩ (fun r2 H locs f2 hP1 hS1 => ?_)
  replace hP := hP1
  replace hS := hS1
  clear hP1 hS1
  refine lv_if_eq (tgt := 23) hx hb dX9_body_11 (by decide) (fun c3 => ?_) (fun c3 => ?_)
  · have c3 := zz_eqT c3
    refine lv_aload_n hx hb dX9_body_23 rfl (lv_at hl 0 rfl) ?_
    refine lv_ldc (v := (-1000000002)) hx hb hown (hts (.constant RX9 198 (-1000000002)) (List.mem_cons_of_mem _ bm_687)) dX9_body_24 ?_
    refine zz_callVi (As := [.int (-1000000002)]) (rest := []) ⟨hx, hb, hml, hown, hts⟩ hK hP hS (c_X9_error l E σ h0 (-1000000002) g0 (by omega)) (cwV 1 hts gX9_body_X9_error rfl rfl rfl (by decide +kernel) ⟨Nat.le_of_ble_eq_true rfl, Nat.le_of_ble_eq_true rfl⟩) (g0.1) rfl rfl hl.1 rfl (Nat.le_of_ble_eq_true rfl) dX9_body_26 ⟨Nat.zero_le _, Nat.zero_le _⟩ (fun r4 σ4 H locs q4 hP1 hS1 => ?_)
    replace hP := hP1
    replace hS := hS1
    clear hP1 hS1
    try dsimp only at q4
    obtain ⟨w4, f4⟩ := q4
    replace hC := hC.tr (w4.mono (dS23_1 h0))
    replace t0 : σ4 (h0 + 1) 2 = σ (h0 + 1) 2 := (w4 (h0 + 1) 2 (dS23_2 h0)).trans t0
    replace t1 : σ4 (h0 + 1) 3 = σ (h0 + 1) 3 := (w4 (h0 + 1) 3 (dS23_2 h0)).trans t1
    replace t2 : σ4 (h0 + 1) 0 = σ (h0 + 1) 0 := (w4 (h0 + 1) 0 (dS23_2 h0)).trans t2
    exact zz_iret hx hb hr hlocks hK hP hS dX9_body_29 (by exact ⟨hC, Or.inl ⟨by omega, by omega⟩⟩)
  · have c3 := zz_neT c3
    refine lv_aload_n hx hb dX9_body_14 rfl (lv_at hl 0 rfl) ?_
    refine zz_getr hx hb hts hi9 hown hK hP (g0.1) rfl 17 (by decide) (hts (.fieldLink RX9 43 "NoonLawModel" "trace" "[I") (List.mem_cons_of_mem _ bm_104)) rfl rfl dX9_body_15 ?_
    refine lv_iload_n hx hb dX9_body_18 rfl (lv_at hl 1 rfl) ?_
    refine zz_iald hx hb hK hP (g0.2.2.2.2.2.2.2.2.2.2.2.2) (by omega) (by omega) dX9_body_19 (fun j5 q5 r5 => ?_)
    refine lv_goto (tgt := 29) hx hb dX9_body_20 (by decide) ?_
    exact zz_iret hx hb hr hlocks hK hP hS dX9_body_29 (by exact ⟨hC, Or.inr ⟨by omega, by omega, by rw [show ix.toInt.toNat = j5 from by omega, zz_TV.at (by omega)]⟩⟩)
theorem gX9_judge_X9_notThere : GoodIn wzX9_judge (wsV RX9 211 RX9 yX9_notThere wzX9_notThere) := wz_co bm_777 (wz_co bm_778 (wz_co bm_779 (wz_co bm_5 (wz_in bm_780))))
theorem gX9_judge_X9_error : GoodIn wzX9_judge (wsV RX9 94 RX9 yX9_error wzX9_error) := wz_co bm_146 (wz_co bm_147 (wz_co bm_148 (wz_co bm_5 (wz_in bm_149))))
theorem gX9_judge_X9_rightOf : GoodIn wzX9_judge (wsV RX9 214 RX9 yX9_rightOf wzX9_rightOf) := wz_co bm_784 (wz_co bm_785 (wz_co bm_786 (wz_co bm_5 (wz_in bm_787))))
set_option maxHeartbeats 4000000 in
set_option maxRecDepth 100000 in
theorem c_X9_judge (l : Launch) (E : zz_E) (σ : zz_S) (h0 : Nat) (sh : Int32) (g0 : zz_M E h0) (hJ : zz_IM σ h0) (K : zy_W) (hW : zy_YW σ (h0 + 1) K) : Met l yX9_judge wzX9_judge ({ frames := 7, cells := 0, slots := 0, locals := 167 }) (va_Pc [.ref h0, .int sh] (zz_B E σ)) (va_Qi (fun r σ1 => zz_ch (fun a k => (a = h0 + 3 ∨ (h0 + 7 ≤ a ∧ a ≤ h0 + 11))) σ σ1 ∧ (zy_p33 (zz_HM σ (h0 + 4)) (zz_HM σ (h0 + 5)) (zz_CM σ (h0 + 6)) K (σ (h0 + 1) 0).toInt sh.toInt r)) (zz_B E) (zz_A E)) 0 0 (zz_A E) := by
  refine zz_met (cc := cX9_judge) (maxL := 3) (ret := (some .int)) (by decide) rfl (Nat.le_of_ble_eq_true rfl) ?_
  intro p e s m args below meth c ls hx hb hr hts hown hlocks hml hK hP hS hl
  have hl : lv_has ls 3 [(0, .ref h0), (1, .int sh)] := hl
  have hown : s.vm.findClass RX9 = some m.cls := hown
  have hi9 : ∀ w ∈ wsX90, w ∈ wzX9_judge := fun w h => List.mem_cons_of_mem _ (hbw9 w h)
  have k_0 : (0 : Int32).toInt = 0 := by decide +kernel
  replace t0 : σ (h0 + 1) 2 = σ (h0 + 1) 2 := rfl
  replace t1 : σ (h0 + 1) 3 = σ (h0 + 1) 3 := rfl
  replace t2 : σ (h0 + 1) 0 = σ (h0 + 1) 0 := rfl
  have hC : zz_ch (fun a k => (a = h0 + 3 ∨ (h0 + 7 ≤ a ∧ a ≤ h0 + 11))) σ σ := zz_ch.rf σ
  have hI := hJ.1
  obtain ⟨hh, hsl, hd, hp, htc, hwc, hM, hT⟩ := id hI
  have hz5 := hJ.2.2.1
  have htr := hJ.2.2.2
  have hct := hW.2.1
  refine lv_aload_n hx hb dX9_judge_0 rfl (lv_at hl 0 rfl) ?_
  refine lv_iload_n hx hb dX9_judge_1 rfl (lv_at hl 1 rfl) ?_
  refine zz_callVp (As := [.int sh]) (rest := []) ⟨hx, hb, hml, hown, hts⟩ hK hP hS (c_X9_notThere l E σ h0 sh g0) (cwV 1 hts gX9_judge_X9_notThere rfl rfl rfl (by decide +kernel) ⟨Nat.le_of_ble_eq_true rfl, Nat.le_of_ble_eq_true rfl⟩) (g0.1) rfl rfl hl.1 rfl (Nat.le_of_ble_eq_true rfl) dX9_judge_2 ⟨Nat.zero_le _, Nat.zero_le _⟩ (fun r1 H locs f1 hP1 hS1 => ?_)
  replace hP := hP1
  replace hS := hS1
  clear hP1 hS1
  skip
  refine lv_istore_n (lv' := [(2, .int r1), (0, .ref h0), (1, .int sh)]) hx hb dX9_judge_5 rfl hl (by decide) rfl (fun ls hl => ?_)
  refine lv_iload_n hx hb dX9_judge_6 rfl (lv_at hl 0 rfl) ?_
  refine lv_if_eq (tgt := 18) hx hb dX9_judge_7 (by decide) (fun c2 => ?_) (fun c2 => ?_)
  · have c2 := zz_eqT c2
    refine lv_aload_n hx hb dX9_judge_18 rfl (lv_at hl 1 rfl) ?_
    refine lv_iload_n hx hb dX9_judge_19 rfl (lv_at hl 2 rfl) ?_
    refine lv_aload_n hx hb dX9_judge_20 rfl (lv_at hl 1 rfl) ?_
    refine zz_getr hx hb hts hi9 hown hK hP (g0.1) rfl 0 (by decide) (hts (.fieldLink RX9 9 "NoonLawModel" "row" "[I") (List.mem_cons_of_mem _ bm_93)) rfl rfl dX9_judge_21 ?_
    refine lv_iconst (v := 0) hx hb dX9_judge_24 (by decide) ?_
    refine zz_ialc hx hb hK hP (g0.2.1) 0 (by decide) (by decide) t2 dX9_judge_25 ?_
    refine zz_callVi (As := [.int sh, .int (σ (h0 + 1) 0)]) (rest := []) ⟨hx, hb, hml, hown, hts⟩ hK hP hS (c_X9_rightOf l E σ h0 sh (σ (h0 + 1) 0) g0 (by omega) (by first | omega | exact hI | exact hT) (by exact hz5) (by exact hI) K (by exact hW)) (cwV 2 hts gX9_judge_X9_rightOf rfl rfl rfl (by decide +kernel) ⟨Nat.le_of_ble_eq_true rfl, Nat.le_of_ble_eq_true rfl⟩) (g0.1) rfl rfl hl.1 rfl (Nat.le_of_ble_eq_true rfl) dX9_judge_26 ⟨Nat.zero_le _, Nat.zero_le _⟩ (fun r4 σ4 H locs q4 hP1 hS1 => ?_)
    replace hP := hP1
    replace hS := hS1
    clear hP1 hS1
    try dsimp only at q4
    obtain ⟨w4, f4⟩ := q4
    replace hC := hC.tr (w4.mono (dS23_3 h0))
    replace t0 : σ4 (h0 + 1) 2 = σ (h0 + 1) 2 := (w4 (h0 + 1) 2 (dS23_4 h0)).trans t0
    replace t1 : σ4 (h0 + 1) 3 = σ (h0 + 1) 3 := (w4 (h0 + 1) 3 (dS23_4 h0)).trans t1
    replace t2 : σ4 (h0 + 1) 0 = σ (h0 + 1) 0 := (w4 (h0 + 1) 0 (dS23_4 h0)).trans t2
    exact zz_iret hx hb hr hlocks hK hP hS dX9_judge_29 (by exact ⟨hC, Or.inr (Or.inr (⟨by omega, f4.1⟩))⟩)
  · have c2 := zz_neT c2
    refine lv_aload_n hx hb dX9_judge_10 rfl (lv_at hl 1 rfl) ?_
    refine lv_iload_n hx hb dX9_judge_11 rfl (lv_at hl 0 rfl) ?_
    refine zz_callVi (As := [.int r1]) (rest := []) ⟨hx, hb, hml, hown, hts⟩ hK hP hS (c_X9_error l E σ h0 r1 g0 (by omega)) (cwV 1 hts gX9_judge_X9_error rfl rfl rfl (by decide +kernel) ⟨Nat.le_of_ble_eq_true rfl, Nat.le_of_ble_eq_true rfl⟩) (g0.1) rfl rfl hl.1 rfl (Nat.le_of_ble_eq_true rfl) dX9_judge_12 ⟨Nat.zero_le _, Nat.zero_le _⟩ (fun r5 σ5 H locs q5 hP1 hS1 => ?_)
    replace hP := hP1
    replace hS := hS1
    clear hP1 hS1
    try dsimp only at q5
    obtain ⟨w5, f5⟩ := q5
    replace hC := hC.tr (w5.mono (dS23_1 h0))
    replace t0 : σ5 (h0 + 1) 2 = σ (h0 + 1) 2 := (w5 (h0 + 1) 2 (dS23_2 h0)).trans t0
    replace t1 : σ5 (h0 + 1) 3 = σ (h0 + 1) 3 := (w5 (h0 + 1) 3 (dS23_2 h0)).trans t1
    replace t2 : σ5 (h0 + 1) 0 = σ (h0 + 1) 0 := (w5 (h0 + 1) 0 (dS23_2 h0)).trans t2
    refine lv_goto (tgt := 29) hx hb dX9_judge_15 (by decide) ?_
    rcases f1 with z | z | z
    · exact zz_iret hx hb hr hlocks hK hP hS dX9_judge_29 (by exact absurd z.1 (by omega))
    · exact zz_iret hx hb hr hlocks hK hP hS dX9_judge_29 (by exact ⟨hC, Or.inl ⟨by omega, by omega⟩⟩)
    · exact zz_iret hx hb hr hlocks hK hP hS dX9_judge_29 (by exact ⟨hC, Or.inr (Or.inl ⟨by omega, by omega⟩)⟩)
theorem gX9_told_X9_in : GoodIn wzX9_told (va_wsS RX9 47 yX9_in wzX9_in) := wz_co bm_143 (wz_co bm_144 (wz_co bm_5 (wz_in bm_145)))
theorem gX9_told_X9_error : GoodIn wzX9_told (wsV RX9 94 RX9 yX9_error wzX9_error) := wz_co bm_146 (wz_co bm_147 (wz_co bm_148 (wz_co bm_5 (wz_in bm_149))))
set_option maxHeartbeats 4000000 in
set_option maxRecDepth 100000 in
theorem c_X9_told (l : Launch) (E : zz_E) (σ : zz_S) (h0 : Nat) (kk : Int32) (g0 : zz_M E h0) (hJ : zz_IM σ h0) : Met l yX9_told wzX9_told ({ frames := 1, cells := 0, slots := 0, locals := 22 }) (va_Pc [.ref h0, .int kk] (zz_B E σ)) (va_Qi (fun r σ1 => zz_ch (fun a k => (a = h0 + 3 ∨ (h0 + 7 ≤ a ∧ a ≤ h0 + 11))) σ σ1 ∧ (True)) (zz_B E) (zz_A E)) 0 0 (zz_A E) := by
  refine zz_met (cc := cX9_told) (maxL := 2) (ret := (some .int)) (by decide) rfl (Nat.le_of_ble_eq_true rfl) ?_
  intro p e s m args below meth c ls hx hb hr hts hown hlocks hml hK hP hS hl
  have hl : lv_has ls 2 [(0, .ref h0), (1, .int kk)] := hl
  have hown : s.vm.findClass RX9 = some m.cls := hown
  have hi9 : ∀ w ∈ wsX90, w ∈ wzX9_told := fun w h => List.mem_cons_of_mem _ (hbw9 w h)
  have k_m1000000001 : ((-1000000001) : Int32).toInt = -1000000001 := by decide +kernel
  have k_0 : (0 : Int32).toInt = 0 := by decide +kernel
  have k_1 : (1 : Int32).toInt = 1 := by decide +kernel
  have k_6 : (6 : Int32).toInt = 6 := by decide +kernel
  replace t0 : σ (h0 + 1) 2 = σ (h0 + 1) 2 := rfl
  replace t1 : σ (h0 + 1) 3 = σ (h0 + 1) 3 := rfl
  replace t2 : σ (h0 + 1) 0 = σ (h0 + 1) 0 := rfl
  have hC : zz_ch (fun a k => (a = h0 + 3 ∨ (h0 + 7 ≤ a ∧ a ≤ h0 + 11))) σ σ := zz_ch.rf σ
  have hI := hJ.1
  obtain ⟨hh, hsl, hd, hp, htc, hwc, hM, hT⟩ := id hI
  have hz5 := hJ.2.2.1
  have htr := hJ.2.2.2
  refine lv_iload_n hx hb dX9_told_0 rfl (lv_at hl 1 rfl) ?_
  refine lv_iconst (v := 1) hx hb dX9_told_1 (by decide) ?_
  refine lv_bipush (v := 6) hx hb dX9_told_2 (by decide) ?_
  refine zz_callSp (As := [.int kk, .int 1, .int 6]) (rest := []) ⟨hx, hb, hml, hown, hts⟩ hK hP hS (c_X9_in l E σ kk 1 6) (va_cwS 3 hts gX9_told_X9_in rfl rfl rfl (by decide +kernel) ⟨Nat.le_of_ble_eq_true rfl, Nat.le_of_ble_eq_true rfl⟩) rfl hl.1 rfl (Nat.le_of_ble_eq_true rfl) dX9_told_4 ⟨Nat.zero_le _, Nat.zero_le _⟩ (fun r1 H locs f1 hP1 hS1 => ?_)
  replace hP := hP1
  replace hS := hS1
  clear hP1 hS1
  refine lv_if_eq (tgt := 19) hx hb dX9_told_7 (by decide) (fun c2 => ?_) (fun c2 => ?_)
  · have c2 := zz_eqT c2
    refine lv_aload_n hx hb dX9_told_19 rfl (lv_at hl 0 rfl) ?_
    refine lv_ldc (v := (-1000000001)) hx hb hown (hts (.constant RX9 93 (-1000000001)) (List.mem_cons_of_mem _ bm_138)) dX9_told_20 ?_
    refine zz_callVi (As := [.int (-1000000001)]) (rest := []) ⟨hx, hb, hml, hown, hts⟩ hK hP hS (c_X9_error l E σ h0 (-1000000001) g0 (by omega)) (cwV 1 hts gX9_told_X9_error rfl rfl rfl (by decide +kernel) ⟨Nat.le_of_ble_eq_true rfl, Nat.le_of_ble_eq_true rfl⟩) (g0.1) rfl rfl hl.1 rfl (Nat.le_of_ble_eq_true rfl) dX9_told_22 ⟨Nat.zero_le _, Nat.zero_le _⟩ (fun r3 σ3 H locs q3 hP1 hS1 => ?_)
    replace hP := hP1
    replace hS := hS1
    clear hP1 hS1
    try dsimp only at q3
    obtain ⟨w3, f3⟩ := q3
    replace hC := hC.tr (w3.mono (dS23_1 h0))
    replace t0 : σ3 (h0 + 1) 2 = σ (h0 + 1) 2 := (w3 (h0 + 1) 2 (dS23_2 h0)).trans t0
    replace t1 : σ3 (h0 + 1) 3 = σ (h0 + 1) 3 := (w3 (h0 + 1) 3 (dS23_2 h0)).trans t1
    replace t2 : σ3 (h0 + 1) 0 = σ (h0 + 1) 0 := (w3 (h0 + 1) 0 (dS23_2 h0)).trans t2
    exact zz_iret hx hb hr hlocks hK hP hS dX9_told_25 (by exact ⟨hC, trivial⟩)
  · have c2 := zz_neT c2
    refine lv_aload_n hx hb dX9_told_10 rfl (lv_at hl 0 rfl) ?_
    refine zz_getr hx hb hts hi9 hown hK hP (g0.1) rfl 3 (by decide) (hts (.fieldLink RX9 16 "NoonLawModel" "errors" "[I") (List.mem_cons_of_mem _ bm_95)) rfl rfl dX9_told_11 ?_
    refine lv_iload_n hx hb dX9_told_14 rfl (lv_at hl 1 rfl) ?_
    refine zz_iald hx hb hK hP (g0.2.2.2.1) (by omega) (by omega) dX9_told_15 (fun j4 q4 r4 => ?_)
    refine lv_goto (tgt := 25) hx hb dX9_told_16 (by decide) ?_
    exact zz_iret hx hb hr hlocks hK hP hS dX9_told_25 (by exact ⟨hC, trivial⟩)
theorem gX9_count_X9_error : GoodIn wzX9_count (wsV RX9 94 RX9 yX9_error wzX9_error) := wz_co bm_146 (wz_co bm_147 (wz_co bm_148 (wz_co bm_5 (wz_in bm_149))))
set_option maxHeartbeats 4000000 in
set_option maxRecDepth 100000 in
theorem c_X9_count (l : Launch) (E : zz_E) (σ : zz_S) (h0 : Nat) (what : Int32) (g0 : zz_M E h0) (hJ : zz_IM σ h0) : Met l yX9_count wzX9_count ({ frames := 1, cells := 0, slots := 0, locals := 21 }) (va_Pc [.ref h0, .int what] (zz_B E σ)) (va_Qi (fun r σ1 => zz_ch (fun a k => (a = h0 + 3 ∨ (h0 + 7 ≤ a ∧ a ≤ h0 + 11))) σ σ1 ∧ ((what.toInt = 0 ∧ r.toInt = (σ (h0 + 1) 2).toInt) ∨ (what.toInt = 1 ∧ r.toInt = (σ (h0 + 1) 3).toInt) ∨ (what.toInt = 2 ∧ r.toInt = (σ (h0 + 1) 0).toInt) ∨ (what.toInt = 3 ∧ r.toInt = (σ (h0 + 1) 4).toInt) ∨ (what.toInt = 4 ∧ r.toInt = (σ (h0 + 1) 5).toInt) ∨ (what.toInt = 5 ∧ r.toInt = (σ (h0 + 1) 6).toInt) ∨ (what.toInt = 6 ∧ r.toInt = (σ h0 18).toInt) ∨ (what.toInt = 7 ∧ r.toInt = (σ (h0 + 1) 1).toInt) ∨ ((what.toInt < 0 ∨ 7 < what.toInt) ∧ r.toInt = -1000000001))) (zz_B E) (zz_A E)) 0 0 (zz_A E) := by
  refine zz_met (cc := cX9_count) (maxL := 2) (ret := (some .int)) (by decide) rfl (Nat.le_of_ble_eq_true rfl) ?_
  intro p e s m args below meth c ls hx hb hr hts hown hlocks hml hK hP hS hl
  have hl : lv_has ls 2 [(0, .ref h0), (1, .int what)] := hl
  have hown : s.vm.findClass RX9 = some m.cls := hown
  have hi9 : ∀ w ∈ wsX90, w ∈ wzX9_count := fun w h => List.mem_cons_of_mem _ (hbw9 w h)
  have k_m1000000001 : ((-1000000001) : Int32).toInt = -1000000001 := by decide +kernel
  have k_0 : (0 : Int32).toInt = 0 := by decide +kernel
  have k_1 : (1 : Int32).toInt = 1 := by decide +kernel
  have k_2 : (2 : Int32).toInt = 2 := by decide +kernel
  have k_3 : (3 : Int32).toInt = 3 := by decide +kernel
  have k_4 : (4 : Int32).toInt = 4 := by decide +kernel
  have k_5 : (5 : Int32).toInt = 5 := by decide +kernel
  have k_6 : (6 : Int32).toInt = 6 := by decide +kernel
  replace t0 : σ (h0 + 1) 2 = σ (h0 + 1) 2 := rfl
  replace t1 : σ (h0 + 1) 3 = σ (h0 + 1) 3 := rfl
  replace t2 : σ (h0 + 1) 0 = σ (h0 + 1) 0 := rfl
  have hC : zz_ch (fun a k => (a = h0 + 3 ∨ (h0 + 7 ≤ a ∧ a ≤ h0 + 11))) σ σ := zz_ch.rf σ
  have hI := hJ.1
  obtain ⟨hh, hsl, hd, hp, htc, hwc, hM, hT⟩ := id hI
  have hz5 := hJ.2.2.1
  have htr := hJ.2.2.2
  refine lv_iload_n hx hb dX9_count_0 rfl (lv_at hl 1 rfl) ?_
  by_cases c1 : (what).toInt = 0
  · refine lv_tableIn (off := 47) (tgt := 48) hx hb dX9_count_1 (by omega) (by omega) (by rw [show ((what).toInt - (0)).toNat = 0 from by omega]; rfl) (by decide) ?_
    refine lv_aload_n hx hb dX9_count_48 rfl (lv_at hl 0 rfl) ?_
    refine zz_getr hx hb hts hi9 hown hK hP (g0.1) rfl 0 (by decide) (hts (.fieldLink RX9 9 "NoonLawModel" "row" "[I") (List.mem_cons_of_mem _ bm_93)) rfl rfl dX9_count_49 ?_
    refine lv_iconst (v := 2) hx hb dX9_count_52 (by decide) ?_
    refine zz_ialc hx hb hK hP (g0.2.1) 2 (by decide) (by decide) t0 dX9_count_53 ?_
    exact zz_iret hx hb hr hlocks hK hP hS dX9_count_54 (by exact ⟨hC, by omega⟩)
  by_cases c3 : (what).toInt = 1
  · refine lv_tableIn (off := 54) (tgt := 55) hx hb dX9_count_1 (by omega) (by omega) (by rw [show ((what).toInt - (0)).toNat = 1 from by omega]; rfl) (by decide) ?_
    refine lv_aload_n hx hb dX9_count_55 rfl (lv_at hl 0 rfl) ?_
    refine zz_getr hx hb hts hi9 hown hK hP (g0.1) rfl 0 (by decide) (hts (.fieldLink RX9 9 "NoonLawModel" "row" "[I") (List.mem_cons_of_mem _ bm_93)) rfl rfl dX9_count_56 ?_
    refine lv_iconst (v := 3) hx hb dX9_count_59 (by decide) ?_
    refine zz_ialc hx hb hK hP (g0.2.1) 3 (by decide) (by decide) t1 dX9_count_60 ?_
    exact zz_iret hx hb hr hlocks hK hP hS dX9_count_61 (by exact ⟨hC, by omega⟩)
  by_cases c5 : (what).toInt = 2
  · refine lv_tableIn (off := 61) (tgt := 62) hx hb dX9_count_1 (by omega) (by omega) (by rw [show ((what).toInt - (0)).toNat = 2 from by omega]; rfl) (by decide) ?_
    refine lv_aload_n hx hb dX9_count_62 rfl (lv_at hl 0 rfl) ?_
    refine zz_getr hx hb hts hi9 hown hK hP (g0.1) rfl 0 (by decide) (hts (.fieldLink RX9 9 "NoonLawModel" "row" "[I") (List.mem_cons_of_mem _ bm_93)) rfl rfl dX9_count_63 ?_
    refine lv_iconst (v := 0) hx hb dX9_count_66 (by decide) ?_
    refine zz_ialc hx hb hK hP (g0.2.1) 0 (by decide) (by decide) t2 dX9_count_67 ?_
    exact zz_iret hx hb hr hlocks hK hP hS dX9_count_68 (by exact ⟨hC, by omega⟩)
  by_cases c7 : (what).toInt = 3
  · refine lv_tableIn (off := 68) (tgt := 69) hx hb dX9_count_1 (by omega) (by omega) (by rw [show ((what).toInt - (0)).toNat = 3 from by omega]; rfl) (by decide) ?_
    refine lv_aload_n hx hb dX9_count_69 rfl (lv_at hl 0 rfl) ?_
    refine zz_getr hx hb hts hi9 hown hK hP (g0.1) rfl 0 (by decide) (hts (.fieldLink RX9 9 "NoonLawModel" "row" "[I") (List.mem_cons_of_mem _ bm_93)) rfl rfl dX9_count_70 ?_
    refine lv_iconst (v := 4) hx hb dX9_count_73 (by decide) ?_
    refine zz_ialc hx hb hK hP (g0.2.1) 4 (by decide) (by decide) rfl dX9_count_74 ?_
    exact zz_iret hx hb hr hlocks hK hP hS dX9_count_75 (by exact ⟨hC, by omega⟩)
  by_cases c9 : (what).toInt = 4
  · refine lv_tableIn (off := 75) (tgt := 76) hx hb dX9_count_1 (by omega) (by omega) (by rw [show ((what).toInt - (0)).toNat = 4 from by omega]; rfl) (by decide) ?_
    refine lv_aload_n hx hb dX9_count_76 rfl (lv_at hl 0 rfl) ?_
    refine zz_getr hx hb hts hi9 hown hK hP (g0.1) rfl 0 (by decide) (hts (.fieldLink RX9 9 "NoonLawModel" "row" "[I") (List.mem_cons_of_mem _ bm_93)) rfl rfl dX9_count_77 ?_
    refine lv_iconst (v := 5) hx hb dX9_count_80 (by decide) ?_
    refine zz_ialc hx hb hK hP (g0.2.1) 5 (by decide) (by decide) rfl dX9_count_81 ?_
    exact zz_iret hx hb hr hlocks hK hP hS dX9_count_82 (by exact ⟨hC, by omega⟩)
  by_cases c11 : (what).toInt = 5
  · refine lv_tableIn (off := 82) (tgt := 83) hx hb dX9_count_1 (by omega) (by omega) (by rw [show ((what).toInt - (0)).toNat = 5 from by omega]; rfl) (by decide) ?_
    refine lv_aload_n hx hb dX9_count_83 rfl (lv_at hl 0 rfl) ?_
    refine zz_getr hx hb hts hi9 hown hK hP (g0.1) rfl 0 (by decide) (hts (.fieldLink RX9 9 "NoonLawModel" "row" "[I") (List.mem_cons_of_mem _ bm_93)) rfl rfl dX9_count_84 ?_
    refine lv_bipush (v := 6) hx hb dX9_count_87 (by decide) ?_
    refine zz_ialc hx hb hK hP (g0.2.1) 6 (by decide) (by decide) rfl dX9_count_89 ?_
    exact zz_iret hx hb hr hlocks hK hP hS dX9_count_90 (by exact ⟨hC, by omega⟩)
  by_cases c13 : (what).toInt = 6
  · refine lv_tableIn (off := 90) (tgt := 91) hx hb dX9_count_1 (by omega) (by omega) (by rw [show ((what).toInt - (0)).toNat = 6 from by omega]; rfl) (by decide) ?_
    refine lv_aload_n hx hb dX9_count_91 rfl (lv_at hl 0 rfl) ?_
    refine zz_geti hx hb hts hi9 hown hK hP (g0.1) rfl 18 (by decide) (hts (.fieldLink RX9 217 "NoonLawModel" "traced" "I") (List.mem_cons_of_mem _ bm_827)) rfl rfl rfl dX9_count_92 ?_
    exact zz_iret hx hb hr hlocks hK hP hS dX9_count_95 (by exact ⟨hC, by omega⟩)
  by_cases c14 : (what).toInt = 7
  · refine lv_tableIn (off := 95) (tgt := 96) hx hb dX9_count_1 (by omega) (by omega) (by rw [show ((what).toInt - (0)).toNat = 7 from by omega]; rfl) (by decide) ?_
    refine lv_aload_n hx hb dX9_count_96 rfl (lv_at hl 0 rfl) ?_
    refine zz_getr hx hb hts hi9 hown hK hP (g0.1) rfl 0 (by decide) (hts (.fieldLink RX9 9 "NoonLawModel" "row" "[I") (List.mem_cons_of_mem _ bm_93)) rfl rfl dX9_count_97 ?_
    refine lv_iconst (v := 1) hx hb dX9_count_100 (by decide) ?_
    refine zz_ialc hx hb hK hP (g0.2.1) 1 (by decide) (by decide) rfl dX9_count_101 ?_
    exact zz_iret hx hb hr hlocks hK hP hS dX9_count_102 (by exact ⟨hC, by omega⟩)
  refine lv_tableOut (tgt := 103) hx hb dX9_count_1 (by omega) (by decide) ?_
  refine lv_aload_n hx hb dX9_count_103 rfl (lv_at hl 0 rfl) ?_
  refine lv_ldc (v := (-1000000001)) hx hb hown (hts (.constant RX9 93 (-1000000001)) (List.mem_cons_of_mem _ bm_138)) dX9_count_104 ?_
  refine zz_callVi (As := [.int (-1000000001)]) (rest := []) ⟨hx, hb, hml, hown, hts⟩ hK hP hS (c_X9_error l E σ h0 (-1000000001) g0 (by omega)) (cwV 1 hts gX9_count_X9_error rfl rfl rfl (by decide +kernel) ⟨Nat.le_of_ble_eq_true rfl, Nat.le_of_ble_eq_true rfl⟩) (g0.1) rfl rfl hl.1 rfl (Nat.le_of_ble_eq_true rfl) dX9_count_106 ⟨Nat.zero_le _, Nat.zero_le _⟩ (fun r16 σ16 H locs q16 hP1 hS1 => ?_)
  replace hP := hP1
  replace hS := hS1
  clear hP1 hS1
  try dsimp only at q16
  obtain ⟨w16, f16⟩ := q16
  replace hC := hC.tr (w16.mono (dS23_1 h0))
  replace t0 : σ16 (h0 + 1) 2 = σ (h0 + 1) 2 := (w16 (h0 + 1) 2 (dS23_2 h0)).trans t0
  replace t1 : σ16 (h0 + 1) 3 = σ (h0 + 1) 3 := (w16 (h0 + 1) 3 (dS23_2 h0)).trans t1
  replace t2 : σ16 (h0 + 1) 0 = σ (h0 + 1) 0 := (w16 (h0 + 1) 0 (dS23_2 h0)).trans t2
  exact zz_iret hx hb hr hlocks hK hP hS dX9_count_109 (by exact ⟨hC, by omega⟩)
theorem gX9_put_X9_notThere : GoodIn wzX9_put (wsV RX9 211 RX9 yX9_notThere wzX9_notThere) := wz_co bm_777 (wz_co bm_778 (wz_co bm_779 (wz_co bm_5 (wz_in bm_780))))
theorem gX9_put_X9_in : GoodIn wzX9_put (va_wsS RX9 47 yX9_in wzX9_in) := wz_co bm_143 (wz_co bm_144 (wz_co bm_5 (wz_in bm_145)))
theorem gX9_put_X9_error : GoodIn wzX9_put (wsV RX9 94 RX9 yX9_error wzX9_error) := wz_co bm_146 (wz_co bm_147 (wz_co bm_148 (wz_co bm_5 (wz_in bm_149))))
theorem dS23_7 (x0 : Nat) : ((x0 + 6) = x0 + 3 ∨ (x0 + 7 ≤ (x0 + 6) ∧ (x0 + 6) ≤ x0 + 11)) ∨ (x0 + 6) = x0 + 6 := by omega
theorem dS23_8 (x0 : Nat) : ∀ a k : Nat, (a = (x0) + 3) → ((a = x0 + 3 ∨ (x0 + 7 ≤ a ∧ a ≤ x0 + 11)) ∨ a = x0 + 6) := by intro a k h; omega
set_option maxHeartbeats 4000000 in
set_option maxRecDepth 100000 in
theorem c_X9_put (l : Launch) (E : zz_E) (σ : zz_S) (h0 : Nat) (sh : Int32) (ix : Int32) (v : Int32) (g0 : zz_M E h0) (hJ : zz_IM σ h0) : Met l yX9_put wzX9_put ({ frames := 3, cells := 0, slots := 0, locals := 63 }) (va_Pc [.ref h0, .int sh, .int ix, .int v] (zz_B E σ)) (va_Qi (fun r σ1 => zz_ch (fun a k => (a = h0 + 3 ∨ (h0 + 7 ≤ a ∧ a ≤ h0 + 11)) ∨ a = h0 + 6) σ σ1 ∧ (((sh.toInt < 0 ∨ 3 < sh.toInt) ∧ r.toInt = -1000000001 ∧ zz_CM σ1 (h0 + 6) = zz_CM σ (h0 + 6)) ∨ ((0 ≤ sh.toInt ∧ sh.toInt ≤ 3) ∧ zz_HM σ (h0 + 4) sh.toInt.toNat = 0 ∧ r.toInt = -1000000002 ∧ zz_CM σ1 (h0 + 6) = zz_CM σ (h0 + 6)) ∨ ((0 ≤ sh.toInt ∧ sh.toInt ≤ 3) ∧ zz_HM σ (h0 + 4) sh.toInt.toNat ≠ 0 ∧ (ix.toInt < 0 ∨ zz_HM σ (h0 + 5) sh.toInt.toNat ≤ ix.toInt) ∧ r.toInt = -1000000001 ∧ zz_CM σ1 (h0 + 6) = zz_CM σ (h0 + 6)) ∨ ((0 ≤ sh.toInt ∧ sh.toInt ≤ 3) ∧ zz_HM σ (h0 + 4) sh.toInt.toNat ≠ 0 ∧ (0 ≤ ix.toInt ∧ ix.toInt < zz_HM σ (h0 + 5) sh.toInt.toNat) ∧ r.toInt = 1 ∧ zz_CM σ1 (h0 + 6) = zz_ds (zz_CM σ (h0 + 6)) sh.toInt ix.toInt.toNat (zz_nb (zz_HM σ (h0 + 4) sh.toInt.toNat) v).toInt))) (zz_B E) (zz_A E)) 0 0 (zz_A E) := by
  refine zz_met (cc := cX9_put) (maxL := 5) (ret := (some .int)) (by decide) rfl (Nat.le_of_ble_eq_true rfl) ?_
  intro p e s m args below meth c ls hx hb hr hts hown hlocks hml hK hP hS hl
  have hl : lv_has ls 5 [(0, .ref h0), (1, .int sh), (2, .int ix), (3, .int v)] := hl
  have hown : s.vm.findClass RX9 = some m.cls := hown
  have hi9 : ∀ w ∈ wsX90, w ∈ wzX9_put := fun w h => List.mem_cons_of_mem _ (hbw9 w h)
  have k_m1000000001 : ((-1000000001) : Int32).toInt = -1000000001 := by decide +kernel
  have k_0 : (0 : Int32).toInt = 0 := by decide +kernel
  have k_1 : (1 : Int32).toInt = 1 := by decide +kernel
  have k_8 : (8 : Int32).toInt = 8 := by decide +kernel
  have k_16 : (16 : Int32).toInt = 16 := by decide +kernel
  have k_24 : (24 : Int32).toInt = 24 := by decide +kernel
  replace t0 : σ (h0 + 1) 2 = σ (h0 + 1) 2 := rfl
  replace t1 : σ (h0 + 1) 3 = σ (h0 + 1) 3 := rfl
  replace t2 : σ (h0 + 1) 0 = σ (h0 + 1) 0 := rfl
  have hC : zz_ch (fun a k => (a = h0 + 3 ∨ (h0 + 7 ≤ a ∧ a ≤ h0 + 11)) ∨ a = h0 + 6) σ σ := zz_ch.rf σ
  have hI := hJ.1
  obtain ⟨hh, hsl, hd, hp, htc, hwc, hM, hT⟩ := id hI
  have hz5 := hJ.2.2.1
  have htr := hJ.2.2.2
  refine lv_aload_n hx hb dX9_put_0 rfl (lv_at hl 0 rfl) ?_
  refine lv_iload_n hx hb dX9_put_1 rfl (lv_at hl 1 rfl) ?_
  refine zz_callVp (As := [.int sh]) (rest := []) ⟨hx, hb, hml, hown, hts⟩ hK hP hS (c_X9_notThere l E σ h0 sh g0) (cwV 1 hts gX9_put_X9_notThere rfl rfl rfl (by decide +kernel) ⟨Nat.le_of_ble_eq_true rfl, Nat.le_of_ble_eq_true rfl⟩) (g0.1) rfl rfl hl.1 rfl (Nat.le_of_ble_eq_true rfl) dX9_put_2 ⟨Nat.zero_le _, Nat.zero_le _⟩ (fun r1 H locs f1 hP1 hS1 => ?_)
  replace hP := hP1
  replace hS := hS1
  clear hP1 hS1
  skip
  refine lv_istore (lv' := [(4, .int r1), (0, .ref h0), (1, .int sh), (2, .int ix), (3, .int v)]) hx hb dX9_put_5 hl (by decide) rfl (fun ls hl => ?_)
  refine lv_iload hx hb dX9_put_7 (lv_at hl 0 rfl) ?_
  refine lv_if_ne (tgt := 33) hx hb dX9_put_9 (by decide) (fun c2 => ?_) (fun c2 => ?_)
  · have c2 := zz_neT c2
    refine lv_iload hx hb dX9_put_33 (lv_at hl 0 rfl) ?_
    refine lv_istore (lv' := [(4, .int r1), (0, .ref h0), (1, .int sh), (2, .int ix), (3, .int v)]) hx hb dX9_put_35 hl (by decide) rfl (fun ls hl => ?_)
    refine lv_iload hx hb dX9_put_37 (lv_at hl 0 rfl) ?_
    refine lv_if_eq (tgt := 49) hx hb dX9_put_39 (by decide) (fun c3 => ?_) (fun c3 => ?_)
    · have c3 := zz_eqT c3
      refine lv_aload_n hx hb dX9_put_49 rfl (lv_at hl 1 rfl) ?_
      refine zz_getr hx hb hts hi9 hown hK hP (g0.1) rfl 6 (by decide) (hts (.fieldLink RX9 25 "NoonLawModel" "cells" "[I") (List.mem_cons_of_mem _ bm_98)) rfl rfl dX9_put_50 ?_
      refine lv_bipush (v := 24) hx hb dX9_put_53 (by decide) ?_
      refine lv_iload_n hx hb dX9_put_55 rfl (lv_at hl 2 rfl) ?_
      refine lv_imul hx hb dX9_put_56 ?_
      refine lv_topi (fun n4 e4 => ?_)
      have f4 : n4.toInt = 24 * (sh).toInt := zz_mulL 24 e4 (by decide) (by omega) (by omega)
      refine lv_iload_n hx hb dX9_put_57 rfl (lv_at hl 3 rfl) ?_
      refine lv_iadd hx hb dX9_put_58 ?_
      refine lv_topi (fun n5 e5 => ?_)
      have f5 : n5.toInt = (n4).toInt + (ix).toInt := zz_addT e5 (by omega) (by omega)
      refine lv_aload_n hx hb dX9_put_59 rfl (lv_at hl 1 rfl) ?_
      refine zz_getr hx hb hts hi9 hown hK hP (g0.1) rfl 4 (by decide) (hts (.fieldLink RX9 19 "NoonLawModel" "bitsOf" "[I") (List.mem_cons_of_mem _ bm_96)) rfl rfl dX9_put_60 ?_
      refine lv_iload_n hx hb dX9_put_63 rfl (lv_at hl 2 rfl) ?_
      refine zz_iald hx hb hK hP (g0.2.2.2.2.1) (by omega) (by omega) dX9_put_64 (fun j6 q6 r6 => ?_)
      have hxb : zz_HM σ (h0 + 4) sh.toInt.toNat = (σ (h0 + 4) j6).toInt := by rw [show sh.toInt.toNat = j6 from by omega]; exact zz_HM.at r6
      refine lv_bipush (v := 8) hx hb dX9_put_65 (by decide) ?_
      refine lv_icmp_ne (tgt := 75) hx hb dX9_put_67 (by decide) (fun c7 => ?_) (fun c7 => ?_)
      · have c7 := zz_neT c7
        refine lv_aload_n hx hb dX9_put_75 rfl (lv_at hl 1 rfl) ?_
        refine zz_getr hx hb hts hi9 hown hK hP (g0.1) rfl 4 (by decide) (hts (.fieldLink RX9 19 "NoonLawModel" "bitsOf" "[I") (List.mem_cons_of_mem _ bm_96)) rfl rfl dX9_put_76 ?_
        refine lv_iload_n hx hb dX9_put_79 rfl (lv_at hl 2 rfl) ?_
        refine zz_iald hx hb hK hP (g0.2.2.2.2.1) (by omega) (by omega) dX9_put_80 (fun j8 q8 r8 => ?_)
        have hxc : zz_HM σ (h0 + 4) sh.toInt.toNat = (σ (h0 + 4) j8).toInt := by rw [show sh.toInt.toNat = j8 from by omega]; exact zz_HM.at r8
        refine lv_bipush (v := 16) hx hb dX9_put_81 (by decide) ?_
        refine lv_icmp_ne (tgt := 91) hx hb dX9_put_83 (by decide) (fun c9 => ?_) (fun c9 => ?_)
        · have c9 := zz_neT c9
          refine lv_iload_n hx hb dX9_put_91 rfl (lv_at hl 4 rfl) ?_
          refine zz_iast hx hb hK hP hS (g0.2.2.2.2.2.2.1) (by omega) (by omega) dX9_put_92 (fun j10 σ10 H locs q10 r10 w10 hP1 hS1 => ?_)
          replace hP := hP1
          replace hS := hS1
          clear hP1 hS1
          replace hC := hC.u w10 (dS23_7 h0)
          replace t0 : σ10 (h0 + 1) 2 = σ (h0 + 1) 2 := (zz_w (b := (h0 + 1)) (j := 2) w10 (fun q9 => zz_na (a := h0) (i := 1) (j := 6) (by decide) q9.1)).trans t0
          replace t1 : σ10 (h0 + 1) 3 = σ (h0 + 1) 3 := (zz_w (b := (h0 + 1)) (j := 3) w10 (fun q9 => zz_na (a := h0) (i := 1) (j := 6) (by decide) q9.1)).trans t1
          replace t2 : σ10 (h0 + 1) 0 = σ (h0 + 1) 0 := (zz_w (b := (h0 + 1)) (j := 0) w10 (fun q9 => zz_na (a := h0) (i := 1) (j := 6) (by decide) q9.1)).trans t2
          refine lv_iconst (v := 1) hx hb dX9_put_93 (by decide) ?_
          have hnb : v = zz_nb (zz_HM σ (h0 + 4) sh.toInt.toNat) v := by unfold zz_nb; rw [if_neg (by omega), if_neg (by omega)]
          exact zz_iret hx hb hr hlocks hK hP hS dX9_put_94 (by exact ⟨hC, Or.inr (Or.inr (Or.inr (⟨by omega, by omega, by omega, by omega, by rw [← hnb]; exact zz_CMw sh.toInt.toNat ix.toInt.toNat w10 (by omega) (by omega) (by omega) (by omega)⟩)))⟩)
        · have c9 := zz_eqT c9
          skip
          refine lv_iload_n hx hb dX9_put_86 rfl (lv_at hl 4 rfl) ?_
          refine lv_i2s hx hb dX9_put_87 rfl ?_
          refine lv_topi (fun n11 e11 => ?_)
          refine lv_goto (tgt := 92) hx hb dX9_put_88 (by decide) ?_
          refine zz_iast hx hb hK hP hS (g0.2.2.2.2.2.2.1) (by omega) (by omega) dX9_put_92 (fun j12 σ12 H locs q12 r12 w12 hP1 hS1 => ?_)
          replace hP := hP1
          replace hS := hS1
          clear hP1 hS1
          replace hC := hC.u w12 (dS23_7 h0)
          replace t0 : σ12 (h0 + 1) 2 = σ (h0 + 1) 2 := (zz_w (b := (h0 + 1)) (j := 2) w12 (fun q9 => zz_na (a := h0) (i := 1) (j := 6) (by decide) q9.1)).trans t0
          replace t1 : σ12 (h0 + 1) 3 = σ (h0 + 1) 3 := (zz_w (b := (h0 + 1)) (j := 3) w12 (fun q9 => zz_na (a := h0) (i := 1) (j := 6) (by decide) q9.1)).trans t1
          replace t2 : σ12 (h0 + 1) 0 = σ (h0 + 1) 0 := (zz_w (b := (h0 + 1)) (j := 0) w12 (fun q9 => zz_na (a := h0) (i := 1) (j := 6) (by decide) q9.1)).trans t2
          refine lv_iconst (v := 1) hx hb dX9_put_93 (by decide) ?_
          have hnb : n11 = zz_nb (zz_HM σ (h0 + 4) sh.toInt.toNat) v := by unfold zz_nb; rw [if_neg (by omega), if_pos (by omega), e11]
          exact zz_iret hx hb hr hlocks hK hP hS dX9_put_94 (by exact ⟨hC, Or.inr (Or.inr (Or.inr (⟨by omega, by omega, by omega, by omega, by rw [← hnb]; exact zz_CMw sh.toInt.toNat ix.toInt.toNat w12 (by omega) (by omega) (by omega) (by omega)⟩)))⟩)
      · have c7 := zz_eqT c7
        refine lv_iload_n hx hb dX9_put_70 rfl (lv_at hl 4 rfl) ?_
        refine lv_i2b hx hb dX9_put_71 rfl ?_
        refine lv_topi (fun n13 e13 => ?_)
        refine lv_goto (tgt := 92) hx hb dX9_put_72 (by decide) ?_
        refine zz_iast hx hb hK hP hS (g0.2.2.2.2.2.2.1) (by omega) (by omega) dX9_put_92 (fun j14 σ14 H locs q14 r14 w14 hP1 hS1 => ?_)
        replace hP := hP1
        replace hS := hS1
        clear hP1 hS1
        replace hC := hC.u w14 (dS23_7 h0)
        replace t0 : σ14 (h0 + 1) 2 = σ (h0 + 1) 2 := (zz_w (b := (h0 + 1)) (j := 2) w14 (fun q9 => zz_na (a := h0) (i := 1) (j := 6) (by decide) q9.1)).trans t0
        replace t1 : σ14 (h0 + 1) 3 = σ (h0 + 1) 3 := (zz_w (b := (h0 + 1)) (j := 3) w14 (fun q9 => zz_na (a := h0) (i := 1) (j := 6) (by decide) q9.1)).trans t1
        replace t2 : σ14 (h0 + 1) 0 = σ (h0 + 1) 0 := (zz_w (b := (h0 + 1)) (j := 0) w14 (fun q9 => zz_na (a := h0) (i := 1) (j := 6) (by decide) q9.1)).trans t2
        refine lv_iconst (v := 1) hx hb dX9_put_93 (by decide) ?_
        have hnb : n13 = zz_nb (zz_HM σ (h0 + 4) sh.toInt.toNat) v := by unfold zz_nb; rw [if_pos (by omega), e13]
        exact zz_iret hx hb hr hlocks hK hP hS dX9_put_94 (by exact ⟨hC, Or.inr (Or.inr (Or.inr (⟨by omega, by omega, by omega, by omega, by rw [← hnb]; exact zz_CMw sh.toInt.toNat ix.toInt.toNat w14 (by omega) (by omega) (by omega) (by omega)⟩)))⟩)
    · have c3 := zz_neT c3
      refine lv_aload_n hx hb dX9_put_42 rfl (lv_at hl 1 rfl) ?_
      refine lv_iload hx hb dX9_put_43 (lv_at hl 0 rfl) ?_
      refine zz_callVi (As := [.int r1]) (rest := []) ⟨hx, hb, hml, hown, hts⟩ hK hP hS (c_X9_error l E σ h0 r1 g0 (by omega)) (cwV 1 hts gX9_put_X9_error rfl rfl rfl (by decide +kernel) ⟨Nat.le_of_ble_eq_true rfl, Nat.le_of_ble_eq_true rfl⟩) (g0.1) rfl rfl hl.1 rfl (Nat.le_of_ble_eq_true rfl) dX9_put_45 ⟨Nat.zero_le _, Nat.zero_le _⟩ (fun r15 σ15 H locs q15 hP1 hS1 => ?_)
      replace hP := hP1
      replace hS := hS1
      clear hP1 hS1
      try dsimp only at q15
      obtain ⟨w15, f15⟩ := q15
      replace hC := hC.tr (w15.mono (dS23_8 h0))
      replace t0 : σ15 (h0 + 1) 2 = σ (h0 + 1) 2 := (w15 (h0 + 1) 2 (dS23_2 h0)).trans t0
      replace t1 : σ15 (h0 + 1) 3 = σ (h0 + 1) 3 := (w15 (h0 + 1) 3 (dS23_2 h0)).trans t1
      replace t2 : σ15 (h0 + 1) 0 = σ (h0 + 1) 0 := (w15 (h0 + 1) 0 (dS23_2 h0)).trans t2
      rcases f1 with z | z | z
      · exact zz_iret hx hb hr hlocks hK hP hS dX9_put_48 (by exact absurd z.1 (by omega))
      · exact zz_iret hx hb hr hlocks hK hP hS dX9_put_48 (by exact ⟨hC, Or.inl ⟨by omega, by omega, (zz_CM.eq (fun k hk => w15 _ _ (by first | (dsimp only; omega) | omega)))⟩⟩)
      · exact zz_iret hx hb hr hlocks hK hP hS dX9_put_48 (by exact ⟨hC, Or.inr (Or.inl ⟨by omega, by omega, by omega, (zz_CM.eq (fun k hk => w15 _ _ (by first | (dsimp only; omega) | omega)))⟩)⟩)
  · have c2 := zz_eqT c2
    refine lv_iload_n hx hb dX9_put_12 rfl (lv_at hl 3 rfl) ?_
    refine lv_iconst (v := 0) hx hb dX9_put_13 (by decide) ?_
    refine lv_aload_n hx hb dX9_put_14 rfl (lv_at hl 1 rfl) ?_
    refine zz_getr hx hb hts hi9 hown hK hP (g0.1) rfl 5 (by decide) (hts (.fieldLink RX9 22 "NoonLawModel" "sizeOf" "[I") (List.mem_cons_of_mem _ bm_97)) rfl rfl dX9_put_15 ?_
    refine lv_iload_n hx hb dX9_put_18 rfl (lv_at hl 2 rfl) ?_
    refine zz_iald hx hb hK hP (g0.2.2.2.2.2.1) (by omega) (by omega) dX9_put_19 (fun j16 q16 r16 => ?_)
    have hxs : zz_HM σ (h0 + 5) sh.toInt.toNat = (σ (h0 + 5) j16).toInt := by rw [show sh.toInt.toNat = j16 from by omega]; exact zz_HM.at r16
    have hzj16 := hz5 j16 r16
    refine lv_iconst (v := 1) hx hb dX9_put_20 (by decide) ?_
    refine lv_isub hx hb dX9_put_21 ?_
    refine lv_topi (fun n17 e17 => ?_)
    have f17 : n17.toInt = (σ (h0 + 5) j16).toInt - (1 : Int32).toInt := zz_subT e17 (by omega) (by omega)
    refine zz_callSp (As := [.int ix, .int 0, .int n17]) (rest := []) ⟨hx, hb, hml, hown, hts⟩ hK hP hS (c_X9_in l E σ ix 0 n17) (va_cwS 3 hts gX9_put_X9_in rfl rfl rfl (by decide +kernel) ⟨Nat.le_of_ble_eq_true rfl, Nat.le_of_ble_eq_true rfl⟩) rfl hl.1 rfl (Nat.le_of_ble_eq_true rfl) dX9_put_22 ⟨Nat.zero_le _, Nat.zero_le _⟩ (fun r18 H locs f18 hP1 hS1 => ?_)
    replace hP := hP1
    replace hS := hS1
    clear hP1 hS1
    refine lv_if_ne (tgt := 33) hx hb dX9_put_25 (by decide) (fun c19 => ?_) (fun c19 => ?_)
    · have c19 := zz_neT c19
      refine lv_iload hx hb dX9_put_33 (lv_at hl 0 rfl) ?_
      refine lv_istore (lv' := [(4, .int r1), (0, .ref h0), (1, .int sh), (2, .int ix), (3, .int v)]) hx hb dX9_put_35 hl (by decide) rfl (fun ls hl => ?_)
      refine lv_iload hx hb dX9_put_37 (lv_at hl 0 rfl) ?_
      refine lv_if_eq (tgt := 49) hx hb dX9_put_39 (by decide) (fun c20 => ?_) (fun c20 => ?_)
      · have c20 := zz_eqT c20
        refine lv_aload_n hx hb dX9_put_49 rfl (lv_at hl 1 rfl) ?_
        refine zz_getr hx hb hts hi9 hown hK hP (g0.1) rfl 6 (by decide) (hts (.fieldLink RX9 25 "NoonLawModel" "cells" "[I") (List.mem_cons_of_mem _ bm_98)) rfl rfl dX9_put_50 ?_
        refine lv_bipush (v := 24) hx hb dX9_put_53 (by decide) ?_
        refine lv_iload_n hx hb dX9_put_55 rfl (lv_at hl 2 rfl) ?_
        refine lv_imul hx hb dX9_put_56 ?_
        refine lv_topi (fun n21 e21 => ?_)
        have f21 : n21.toInt = 24 * (sh).toInt := zz_mulL 24 e21 (by decide) (by omega) (by omega)
        refine lv_iload_n hx hb dX9_put_57 rfl (lv_at hl 3 rfl) ?_
        refine lv_iadd hx hb dX9_put_58 ?_
        refine lv_topi (fun n22 e22 => ?_)
        have f22 : n22.toInt = (n21).toInt + (ix).toInt := zz_addT e22 (by omega) (by omega)
        refine lv_aload_n hx hb dX9_put_59 rfl (lv_at hl 1 rfl) ?_
        refine zz_getr hx hb hts hi9 hown hK hP (g0.1) rfl 4 (by decide) (hts (.fieldLink RX9 19 "NoonLawModel" "bitsOf" "[I") (List.mem_cons_of_mem _ bm_96)) rfl rfl dX9_put_60 ?_
        refine lv_iload_n hx hb dX9_put_63 rfl (lv_at hl 2 rfl) ?_
        refine zz_iald hx hb hK hP (g0.2.2.2.2.1) (by omega) (by omega) dX9_put_64 (fun j23 q23 r23 => ?_)
        have hxb : zz_HM σ (h0 + 4) sh.toInt.toNat = (σ (h0 + 4) j23).toInt := by rw [show sh.toInt.toNat = j23 from by omega]; exact zz_HM.at r23
        refine lv_bipush (v := 8) hx hb dX9_put_65 (by decide) ?_
        refine lv_icmp_ne (tgt := 75) hx hb dX9_put_67 (by decide) (fun c24 => ?_) (fun c24 => ?_)
        · have c24 := zz_neT c24
          refine lv_aload_n hx hb dX9_put_75 rfl (lv_at hl 1 rfl) ?_
          refine zz_getr hx hb hts hi9 hown hK hP (g0.1) rfl 4 (by decide) (hts (.fieldLink RX9 19 "NoonLawModel" "bitsOf" "[I") (List.mem_cons_of_mem _ bm_96)) rfl rfl dX9_put_76 ?_
          refine lv_iload_n hx hb dX9_put_79 rfl (lv_at hl 2 rfl) ?_
          refine zz_iald hx hb hK hP (g0.2.2.2.2.1) (by omega) (by omega) dX9_put_80 (fun j25 q25 r25 => ?_)
          have hxc : zz_HM σ (h0 + 4) sh.toInt.toNat = (σ (h0 + 4) j25).toInt := by rw [show sh.toInt.toNat = j25 from by omega]; exact zz_HM.at r25
          refine lv_bipush (v := 16) hx hb dX9_put_81 (by decide) ?_
          refine lv_icmp_ne (tgt := 91) hx hb dX9_put_83 (by decide) (fun c26 => ?_) (fun c26 => ?_)
          · have c26 := zz_neT c26
            refine lv_iload_n hx hb dX9_put_91 rfl (lv_at hl 4 rfl) ?_
            refine zz_iast hx hb hK hP hS (g0.2.2.2.2.2.2.1) (by omega) (by omega) dX9_put_92 (fun j27 σ27 H locs q27 r27 w27 hP1 hS1 => ?_)
            replace hP := hP1
            replace hS := hS1
            clear hP1 hS1
            replace hC := hC.u w27 (dS23_7 h0)
            replace t0 : σ27 (h0 + 1) 2 = σ (h0 + 1) 2 := (zz_w (b := (h0 + 1)) (j := 2) w27 (fun q9 => zz_na (a := h0) (i := 1) (j := 6) (by decide) q9.1)).trans t0
            replace t1 : σ27 (h0 + 1) 3 = σ (h0 + 1) 3 := (zz_w (b := (h0 + 1)) (j := 3) w27 (fun q9 => zz_na (a := h0) (i := 1) (j := 6) (by decide) q9.1)).trans t1
            replace t2 : σ27 (h0 + 1) 0 = σ (h0 + 1) 0 := (zz_w (b := (h0 + 1)) (j := 0) w27 (fun q9 => zz_na (a := h0) (i := 1) (j := 6) (by decide) q9.1)).trans t2
            refine lv_iconst (v := 1) hx hb dX9_put_93 (by decide) ?_
            have hnb : v = zz_nb (zz_HM σ (h0 + 4) sh.toInt.toNat) v := by unfold zz_nb; rw [if_neg (by omega), if_neg (by omega)]
            exact zz_iret hx hb hr hlocks hK hP hS dX9_put_94 (by exact ⟨hC, Or.inr (Or.inr (Or.inr (⟨by omega, by omega, by omega, by omega, by rw [← hnb]; exact zz_CMw sh.toInt.toNat ix.toInt.toNat w27 (by omega) (by omega) (by omega) (by omega)⟩)))⟩)
          · have c26 := zz_eqT c26
            skip
            refine lv_iload_n hx hb dX9_put_86 rfl (lv_at hl 4 rfl) ?_
            refine lv_i2s hx hb dX9_put_87 rfl ?_
            refine lv_topi (fun n28 e28 => ?_)
            refine lv_goto (tgt := 92) hx hb dX9_put_88 (by decide) ?_
            refine zz_iast hx hb hK hP hS (g0.2.2.2.2.2.2.1) (by omega) (by omega) dX9_put_92 (fun j29 σ29 H locs q29 r29 w29 hP1 hS1 => ?_)
            replace hP := hP1
            replace hS := hS1
            clear hP1 hS1
            replace hC := hC.u w29 (dS23_7 h0)
            replace t0 : σ29 (h0 + 1) 2 = σ (h0 + 1) 2 := (zz_w (b := (h0 + 1)) (j := 2) w29 (fun q9 => zz_na (a := h0) (i := 1) (j := 6) (by decide) q9.1)).trans t0
            replace t1 : σ29 (h0 + 1) 3 = σ (h0 + 1) 3 := (zz_w (b := (h0 + 1)) (j := 3) w29 (fun q9 => zz_na (a := h0) (i := 1) (j := 6) (by decide) q9.1)).trans t1
            replace t2 : σ29 (h0 + 1) 0 = σ (h0 + 1) 0 := (zz_w (b := (h0 + 1)) (j := 0) w29 (fun q9 => zz_na (a := h0) (i := 1) (j := 6) (by decide) q9.1)).trans t2
            refine lv_iconst (v := 1) hx hb dX9_put_93 (by decide) ?_
            have hnb : n28 = zz_nb (zz_HM σ (h0 + 4) sh.toInt.toNat) v := by unfold zz_nb; rw [if_neg (by omega), if_pos (by omega), e28]
            exact zz_iret hx hb hr hlocks hK hP hS dX9_put_94 (by exact ⟨hC, Or.inr (Or.inr (Or.inr (⟨by omega, by omega, by omega, by omega, by rw [← hnb]; exact zz_CMw sh.toInt.toNat ix.toInt.toNat w29 (by omega) (by omega) (by omega) (by omega)⟩)))⟩)
        · have c24 := zz_eqT c24
          refine lv_iload_n hx hb dX9_put_70 rfl (lv_at hl 4 rfl) ?_
          refine lv_i2b hx hb dX9_put_71 rfl ?_
          refine lv_topi (fun n30 e30 => ?_)
          refine lv_goto (tgt := 92) hx hb dX9_put_72 (by decide) ?_
          refine zz_iast hx hb hK hP hS (g0.2.2.2.2.2.2.1) (by omega) (by omega) dX9_put_92 (fun j31 σ31 H locs q31 r31 w31 hP1 hS1 => ?_)
          replace hP := hP1
          replace hS := hS1
          clear hP1 hS1
          replace hC := hC.u w31 (dS23_7 h0)
          replace t0 : σ31 (h0 + 1) 2 = σ (h0 + 1) 2 := (zz_w (b := (h0 + 1)) (j := 2) w31 (fun q9 => zz_na (a := h0) (i := 1) (j := 6) (by decide) q9.1)).trans t0
          replace t1 : σ31 (h0 + 1) 3 = σ (h0 + 1) 3 := (zz_w (b := (h0 + 1)) (j := 3) w31 (fun q9 => zz_na (a := h0) (i := 1) (j := 6) (by decide) q9.1)).trans t1
          replace t2 : σ31 (h0 + 1) 0 = σ (h0 + 1) 0 := (zz_w (b := (h0 + 1)) (j := 0) w31 (fun q9 => zz_na (a := h0) (i := 1) (j := 6) (by decide) q9.1)).trans t2
          refine lv_iconst (v := 1) hx hb dX9_put_93 (by decide) ?_
          have hnb : n30 = zz_nb (zz_HM σ (h0 + 4) sh.toInt.toNat) v := by unfold zz_nb; rw [if_pos (by omega), e30]
          exact zz_iret hx hb hr hlocks hK hP hS dX9_put_94 (by exact ⟨hC, Or.inr (Or.inr (Or.inr (⟨by omega, by omega, by omega, by omega, by rw [← hnb]; exact zz_CMw sh.toInt.toNat ix.toInt.toNat w31 (by omega) (by omega) (by omega) (by omega)⟩)))⟩)
      · have c20 := zz_neT c20
        refine lv_aload_n hx hb dX9_put_42 rfl (lv_at hl 1 rfl) ?_
        refine lv_iload hx hb dX9_put_43 (lv_at hl 0 rfl) ?_
        refine zz_callVi (As := [.int r1]) (rest := []) ⟨hx, hb, hml, hown, hts⟩ hK hP hS (c_X9_error l E σ h0 r1 g0 (by omega)) (cwV 1 hts gX9_put_X9_error rfl rfl rfl (by decide +kernel) ⟨Nat.le_of_ble_eq_true rfl, Nat.le_of_ble_eq_true rfl⟩) (g0.1) rfl rfl hl.1 rfl (Nat.le_of_ble_eq_true rfl) dX9_put_45 ⟨Nat.zero_le _, Nat.zero_le _⟩ (fun r32 σ32 H locs q32 hP1 hS1 => ?_)
        replace hP := hP1
        replace hS := hS1
        clear hP1 hS1
        try dsimp only at q32
        obtain ⟨w32, f32⟩ := q32
        replace hC := hC.tr (w32.mono (dS23_8 h0))
        replace t0 : σ32 (h0 + 1) 2 = σ (h0 + 1) 2 := (w32 (h0 + 1) 2 (dS23_2 h0)).trans t0
        replace t1 : σ32 (h0 + 1) 3 = σ (h0 + 1) 3 := (w32 (h0 + 1) 3 (dS23_2 h0)).trans t1
        replace t2 : σ32 (h0 + 1) 0 = σ (h0 + 1) 0 := (w32 (h0 + 1) 0 (dS23_2 h0)).trans t2
        exact zz_iret hx hb hr hlocks hK hP hS dX9_put_48 (by exact ⟨hC, Or.inr (Or.inr (Or.inl ⟨by omega, by omega, by omega, by omega, (zz_CM.eq (fun k hk => w32 _ _ (by first | (dsimp only; omega) | omega)))⟩))⟩)
    · have c19 := zz_eqT c19
      refine lv_ldc (v := (-1000000001)) hx hb hown (hts (.constant RX9 93 (-1000000001)) (List.mem_cons_of_mem _ bm_138)) dX9_put_28 ?_
      refine lv_goto (tgt := 35) hx hb dX9_put_30 (by decide) ?_
      refine lv_istore (lv' := [(4, .int (-1000000001)), (0, .ref h0), (1, .int sh), (2, .int ix), (3, .int v)]) hx hb dX9_put_35 hl (by decide) rfl (fun ls hl => ?_)
      refine lv_iload hx hb dX9_put_37 (lv_at hl 0 rfl) ?_
      refine lv_if_eq (tgt := 49) hx hb dX9_put_39 (by decide) (fun c33 => ?_) (fun c33 => ?_)
      · have c33 := zz_eqT c33
        refine lv_aload_n hx hb dX9_put_49 rfl (lv_at hl 1 rfl) ?_
        refine zz_getr hx hb hts hi9 hown hK hP (g0.1) rfl 6 (by decide) (hts (.fieldLink RX9 25 "NoonLawModel" "cells" "[I") (List.mem_cons_of_mem _ bm_98)) rfl rfl dX9_put_50 ?_
        refine lv_bipush (v := 24) hx hb dX9_put_53 (by decide) ?_
        refine lv_iload_n hx hb dX9_put_55 rfl (lv_at hl 2 rfl) ?_
        refine lv_imul hx hb dX9_put_56 ?_
        refine lv_topi (fun n34 e34 => ?_)
        have f34 : n34.toInt = 24 * (sh).toInt := zz_mulL 24 e34 (by decide) (by omega) (by omega)
        refine lv_iload_n hx hb dX9_put_57 rfl (lv_at hl 3 rfl) ?_
        refine lv_iadd hx hb dX9_put_58 ?_
        refine lv_topi (fun n35 e35 => ?_)
        have f35 : n35.toInt = (n34).toInt + (ix).toInt := zz_addT e35 (by omega) (by omega)
        refine lv_aload_n hx hb dX9_put_59 rfl (lv_at hl 1 rfl) ?_
        refine zz_getr hx hb hts hi9 hown hK hP (g0.1) rfl 4 (by decide) (hts (.fieldLink RX9 19 "NoonLawModel" "bitsOf" "[I") (List.mem_cons_of_mem _ bm_96)) rfl rfl dX9_put_60 ?_
        refine lv_iload_n hx hb dX9_put_63 rfl (lv_at hl 2 rfl) ?_
        refine zz_iald hx hb hK hP (g0.2.2.2.2.1) (by omega) (by omega) dX9_put_64 (fun j36 q36 r36 => ?_)
        have hxb : zz_HM σ (h0 + 4) sh.toInt.toNat = (σ (h0 + 4) j36).toInt := by rw [show sh.toInt.toNat = j36 from by omega]; exact zz_HM.at r36
        refine lv_bipush (v := 8) hx hb dX9_put_65 (by decide) ?_
        refine lv_icmp_ne (tgt := 75) hx hb dX9_put_67 (by decide) (fun c37 => ?_) (fun c37 => ?_)
        · have c37 := zz_neT c37
          refine lv_aload_n hx hb dX9_put_75 rfl (lv_at hl 1 rfl) ?_
          refine zz_getr hx hb hts hi9 hown hK hP (g0.1) rfl 4 (by decide) (hts (.fieldLink RX9 19 "NoonLawModel" "bitsOf" "[I") (List.mem_cons_of_mem _ bm_96)) rfl rfl dX9_put_76 ?_
          refine lv_iload_n hx hb dX9_put_79 rfl (lv_at hl 2 rfl) ?_
          refine zz_iald hx hb hK hP (g0.2.2.2.2.1) (by omega) (by omega) dX9_put_80 (fun j38 q38 r38 => ?_)
          have hxc : zz_HM σ (h0 + 4) sh.toInt.toNat = (σ (h0 + 4) j38).toInt := by rw [show sh.toInt.toNat = j38 from by omega]; exact zz_HM.at r38
          refine lv_bipush (v := 16) hx hb dX9_put_81 (by decide) ?_
          refine lv_icmp_ne (tgt := 91) hx hb dX9_put_83 (by decide) (fun c39 => ?_) (fun c39 => ?_)
          · have c39 := zz_neT c39
            refine lv_iload_n hx hb dX9_put_91 rfl (lv_at hl 4 rfl) ?_
            refine zz_iast hx hb hK hP hS (g0.2.2.2.2.2.2.1) (by omega) (by omega) dX9_put_92 (fun j40 σ40 H locs q40 r40 w40 hP1 hS1 => ?_)
            replace hP := hP1
            replace hS := hS1
            clear hP1 hS1
            replace hC := hC.u w40 (dS23_7 h0)
            replace t0 : σ40 (h0 + 1) 2 = σ (h0 + 1) 2 := (zz_w (b := (h0 + 1)) (j := 2) w40 (fun q9 => zz_na (a := h0) (i := 1) (j := 6) (by decide) q9.1)).trans t0
            replace t1 : σ40 (h0 + 1) 3 = σ (h0 + 1) 3 := (zz_w (b := (h0 + 1)) (j := 3) w40 (fun q9 => zz_na (a := h0) (i := 1) (j := 6) (by decide) q9.1)).trans t1
            replace t2 : σ40 (h0 + 1) 0 = σ (h0 + 1) 0 := (zz_w (b := (h0 + 1)) (j := 0) w40 (fun q9 => zz_na (a := h0) (i := 1) (j := 6) (by decide) q9.1)).trans t2
            refine lv_iconst (v := 1) hx hb dX9_put_93 (by decide) ?_
            have hnb : v = zz_nb (zz_HM σ (h0 + 4) sh.toInt.toNat) v := by unfold zz_nb; rw [if_neg (by omega), if_neg (by omega)]
            exact zz_iret hx hb hr hlocks hK hP hS dX9_put_94 (by exact ⟨hC, Or.inr (Or.inr (Or.inr (⟨by omega, by omega, by omega, by omega, by rw [← hnb]; exact zz_CMw sh.toInt.toNat ix.toInt.toNat w40 (by omega) (by omega) (by omega) (by omega)⟩)))⟩)
          · have c39 := zz_eqT c39
            skip
            refine lv_iload_n hx hb dX9_put_86 rfl (lv_at hl 4 rfl) ?_
            refine lv_i2s hx hb dX9_put_87 rfl ?_
            refine lv_topi (fun n41 e41 => ?_)
            refine lv_goto (tgt := 92) hx hb dX9_put_88 (by decide) ?_
            refine zz_iast hx hb hK hP hS (g0.2.2.2.2.2.2.1) (by omega) (by omega) dX9_put_92 (fun j42 σ42 H locs q42 r42 w42 hP1 hS1 => ?_)
            replace hP := hP1
            replace hS := hS1
            clear hP1 hS1
            replace hC := hC.u w42 (dS23_7 h0)
            replace t0 : σ42 (h0 + 1) 2 = σ (h0 + 1) 2 := (zz_w (b := (h0 + 1)) (j := 2) w42 (fun q9 => zz_na (a := h0) (i := 1) (j := 6) (by decide) q9.1)).trans t0
            replace t1 : σ42 (h0 + 1) 3 = σ (h0 + 1) 3 := (zz_w (b := (h0 + 1)) (j := 3) w42 (fun q9 => zz_na (a := h0) (i := 1) (j := 6) (by decide) q9.1)).trans t1
            replace t2 : σ42 (h0 + 1) 0 = σ (h0 + 1) 0 := (zz_w (b := (h0 + 1)) (j := 0) w42 (fun q9 => zz_na (a := h0) (i := 1) (j := 6) (by decide) q9.1)).trans t2
            refine lv_iconst (v := 1) hx hb dX9_put_93 (by decide) ?_
            have hnb : n41 = zz_nb (zz_HM σ (h0 + 4) sh.toInt.toNat) v := by unfold zz_nb; rw [if_neg (by omega), if_pos (by omega), e41]
            exact zz_iret hx hb hr hlocks hK hP hS dX9_put_94 (by exact ⟨hC, Or.inr (Or.inr (Or.inr (⟨by omega, by omega, by omega, by omega, by rw [← hnb]; exact zz_CMw sh.toInt.toNat ix.toInt.toNat w42 (by omega) (by omega) (by omega) (by omega)⟩)))⟩)
        · have c37 := zz_eqT c37
          refine lv_iload_n hx hb dX9_put_70 rfl (lv_at hl 4 rfl) ?_
          refine lv_i2b hx hb dX9_put_71 rfl ?_
          refine lv_topi (fun n43 e43 => ?_)
          refine lv_goto (tgt := 92) hx hb dX9_put_72 (by decide) ?_
          refine zz_iast hx hb hK hP hS (g0.2.2.2.2.2.2.1) (by omega) (by omega) dX9_put_92 (fun j44 σ44 H locs q44 r44 w44 hP1 hS1 => ?_)
          replace hP := hP1
          replace hS := hS1
          clear hP1 hS1
          replace hC := hC.u w44 (dS23_7 h0)
          replace t0 : σ44 (h0 + 1) 2 = σ (h0 + 1) 2 := (zz_w (b := (h0 + 1)) (j := 2) w44 (fun q9 => zz_na (a := h0) (i := 1) (j := 6) (by decide) q9.1)).trans t0
          replace t1 : σ44 (h0 + 1) 3 = σ (h0 + 1) 3 := (zz_w (b := (h0 + 1)) (j := 3) w44 (fun q9 => zz_na (a := h0) (i := 1) (j := 6) (by decide) q9.1)).trans t1
          replace t2 : σ44 (h0 + 1) 0 = σ (h0 + 1) 0 := (zz_w (b := (h0 + 1)) (j := 0) w44 (fun q9 => zz_na (a := h0) (i := 1) (j := 6) (by decide) q9.1)).trans t2
          refine lv_iconst (v := 1) hx hb dX9_put_93 (by decide) ?_
          have hnb : n43 = zz_nb (zz_HM σ (h0 + 4) sh.toInt.toNat) v := by unfold zz_nb; rw [if_pos (by omega), e43]
          exact zz_iret hx hb hr hlocks hK hP hS dX9_put_94 (by exact ⟨hC, Or.inr (Or.inr (Or.inr (⟨by omega, by omega, by omega, by omega, by rw [← hnb]; exact zz_CMw sh.toInt.toNat ix.toInt.toNat w44 (by omega) (by omega) (by omega) (by omega)⟩)))⟩)
      · have c33 := zz_neT c33
        refine lv_aload_n hx hb dX9_put_42 rfl (lv_at hl 1 rfl) ?_
        refine lv_iload hx hb dX9_put_43 (lv_at hl 0 rfl) ?_
        refine zz_callVi (As := [.int (-1000000001)]) (rest := []) ⟨hx, hb, hml, hown, hts⟩ hK hP hS (c_X9_error l E σ h0 (-1000000001) g0 (by omega)) (cwV 1 hts gX9_put_X9_error rfl rfl rfl (by decide +kernel) ⟨Nat.le_of_ble_eq_true rfl, Nat.le_of_ble_eq_true rfl⟩) (g0.1) rfl rfl hl.1 rfl (Nat.le_of_ble_eq_true rfl) dX9_put_45 ⟨Nat.zero_le _, Nat.zero_le _⟩ (fun r45 σ45 H locs q45 hP1 hS1 => ?_)
        replace hP := hP1
        replace hS := hS1
        clear hP1 hS1
        try dsimp only at q45
        obtain ⟨w45, f45⟩ := q45
        replace hC := hC.tr (w45.mono (dS23_8 h0))
        replace t0 : σ45 (h0 + 1) 2 = σ (h0 + 1) 2 := (w45 (h0 + 1) 2 (dS23_2 h0)).trans t0
        replace t1 : σ45 (h0 + 1) 3 = σ (h0 + 1) 3 := (w45 (h0 + 1) 3 (dS23_2 h0)).trans t1
        replace t2 : σ45 (h0 + 1) 0 = σ (h0 + 1) 0 := (w45 (h0 + 1) 0 (dS23_2 h0)).trans t2
        exact zz_iret hx hb hr hlocks hK hP hS dX9_put_48 (by exact ⟨hC, Or.inr (Or.inr (Or.inl ⟨by omega, by omega, by omega, by omega, (zz_CM.eq (fun k hk => w45 _ _ (by first | (dsimp only; omega) | omega)))⟩))⟩)
theorem gX9_move_X9_notMoved : GoodIn wzX9_move (wsV RX9 260 RX9 yX9_notMoved wzX9_notMoved) := wz_co bm_923 (wz_co bm_924 (wz_co bm_925 (wz_co bm_5 (wz_in bm_926))))
theorem gX9_move_X9_error : GoodIn wzX9_move (wsV RX9 94 RX9 yX9_error wzX9_error) := wz_co bm_146 (wz_co bm_147 (wz_co bm_148 (wz_co bm_5 (wz_in bm_149))))
set_option maxHeartbeats 4000000 in
set_option maxRecDepth 100000 in
theorem c_X9_move (l : Launch) (E : zz_E) (σ : zz_S) (h0 : Nat) (sh : Int32) (ix : Int32) (ot : Int32) (jx : Int32) (nn : Int32) (g0 : zz_M E h0) (hJ : zz_IM σ h0) : Met l yX9_move wzX9_move ({ frames := 3, cells := 0, slots := 0, locals := 68 }) (va_Pc [.ref h0, .int sh, .int ix, .int ot, .int jx, .int nn] (zz_B E σ)) (va_Qi (fun r σ1 => zz_ch (fun a k => (a = h0 + 3 ∨ (h0 + 7 ≤ a ∧ a ≤ h0 + 11)) ∨ a = h0 + 6) σ σ1 ∧ ((¬ ((0 ≤ sh.toInt ∧ sh.toInt ≤ 3) ∧ 0 ≤ ot.toInt ∧ ot.toInt ≤ 3) ∧ r.toInt = -1000000001 ∧ zz_CM σ1 (h0 + 6) = zz_CM σ (h0 + 6)) ∨ (((0 ≤ sh.toInt ∧ sh.toInt ≤ 3) ∧ 0 ≤ ot.toInt ∧ ot.toInt ≤ 3) ∧ (zz_HM σ (h0 + 4) sh.toInt.toNat = 0 ∨ zz_HM σ (h0 + 4) ot.toInt.toNat = 0) ∧ r.toInt = -1000000002 ∧ zz_CM σ1 (h0 + 6) = zz_CM σ (h0 + 6)) ∨ (((0 ≤ sh.toInt ∧ sh.toInt ≤ 3) ∧ 0 ≤ ot.toInt ∧ ot.toInt ≤ 3) ∧ (zz_HM σ (h0 + 4) sh.toInt.toNat ≠ 0 ∧ zz_HM σ (h0 + 4) ot.toInt.toNat ≠ 0 ∧ zz_HM σ (h0 + 4) sh.toInt.toNat ≠ zz_HM σ (h0 + 4) ot.toInt.toNat) ∧ r.toInt = -1000000005 ∧ zz_CM σ1 (h0 + 6) = zz_CM σ (h0 + 6)) ∨ (((0 ≤ sh.toInt ∧ sh.toInt ≤ 3) ∧ 0 ≤ ot.toInt ∧ ot.toInt ≤ 3) ∧ (zz_HM σ (h0 + 4) sh.toInt.toNat ≠ 0 ∧ zz_HM σ (h0 + 4) sh.toInt.toNat = zz_HM σ (h0 + 4) ot.toInt.toNat ∧ ¬ (0 ≤ nn.toInt ∧ 0 ≤ ix.toInt ∧ 0 ≤ jx.toInt ∧ ix.toInt + nn.toInt ≤ zz_HM σ (h0 + 5) sh.toInt.toNat ∧ jx.toInt + nn.toInt ≤ zz_HM σ (h0 + 5) ot.toInt.toNat)) ∧ r.toInt = -1000000001 ∧ zz_CM σ1 (h0 + 6) = zz_CM σ (h0 + 6)) ∨ (((0 ≤ sh.toInt ∧ sh.toInt ≤ 3) ∧ 0 ≤ ot.toInt ∧ ot.toInt ≤ 3) ∧ (zz_HM σ (h0 + 4) sh.toInt.toNat ≠ 0 ∧ zz_HM σ (h0 + 4) sh.toInt.toNat = zz_HM σ (h0 + 4) ot.toInt.toNat ∧ (0 ≤ nn.toInt ∧ 0 ≤ ix.toInt ∧ 0 ≤ jx.toInt ∧ ix.toInt + nn.toInt ≤ zz_HM σ (h0 + 5) sh.toInt.toNat ∧ jx.toInt + nn.toInt ≤ zz_HM σ (h0 + 5) ot.toInt.toNat)) ∧ r.toInt = nn.toInt ∧ zz_CM σ1 (h0 + 6) = zz_mv (zz_CM σ (h0 + 6)) sh.toInt ix.toInt ot.toInt jx.toInt nn.toInt))) (zz_B E) (zz_A E)) 0 0 (zz_A E) := by
  refine zz_met (cc := cX9_move) (maxL := 9) (ret := (some .int)) (by decide) rfl (Nat.le_of_ble_eq_true rfl) ?_
  intro p e s m args below meth c ls hx hb hr hts hown hlocks hml hK hP hS hl
  have hl : lv_has ls 9 [(0, .ref h0), (1, .int sh), (2, .int ix), (3, .int ot), (4, .int jx), (5, .int nn)] := hl
  have hown : s.vm.findClass RX9 = some m.cls := hown
  have hi9 : ∀ w ∈ wsX90, w ∈ wzX9_move := fun w h => List.mem_cons_of_mem _ (hbw9 w h)
  have k_0 : (0 : Int32).toInt = 0 := by decide +kernel
  have k_1 : (1 : Int32).toInt = 1 := by decide +kernel
  have k_24 : (24 : Int32).toInt = 24 := by decide +kernel
  replace t0 : σ (h0 + 1) 2 = σ (h0 + 1) 2 := rfl
  replace t1 : σ (h0 + 1) 3 = σ (h0 + 1) 3 := rfl
  replace t2 : σ (h0 + 1) 0 = σ (h0 + 1) 0 := rfl
  have hC : zz_ch (fun a k => (a = h0 + 3 ∨ (h0 + 7 ≤ a ∧ a ≤ h0 + 11)) ∨ a = h0 + 6) σ σ := zz_ch.rf σ
  have hI := hJ.1
  obtain ⟨hh, hsl, hd, hp, htc, hwc, hM, hT⟩ := id hI
  have hz5 := hJ.2.2.1
  have htr := hJ.2.2.2
  have hsz1 : 0 ≤ sh.toInt ∧ sh.toInt ≤ 3 → zz_HM σ (h0 + 5) sh.toInt.toNat ≤ 24 := fun a => by rw [zz_HM.at (by omega)]; exact (hz5 _ (by omega)).2
  have hsz2 : 0 ≤ ot.toInt ∧ ot.toInt ≤ 3 → zz_HM σ (h0 + 5) ot.toInt.toNat ≤ 24 := fun a => by rw [zz_HM.at (by omega)]; exact (hz5 _ (by omega)).2
  refine lv_aload_n hx hb dX9_move_0 rfl (lv_at hl 0 rfl) ?_
  refine lv_iload_n hx hb dX9_move_1 rfl (lv_at hl 1 rfl) ?_
  refine lv_iload_n hx hb dX9_move_2 rfl (lv_at hl 2 rfl) ?_
  refine lv_iload_n hx hb dX9_move_3 rfl (lv_at hl 3 rfl) ?_
  refine lv_iload hx hb dX9_move_4 (lv_at hl 4 rfl) ?_
  refine lv_iload hx hb dX9_move_6 (lv_at hl 5 rfl) ?_
  refine zz_callVp (As := [.int sh, .int ix, .int ot, .int jx, .int nn]) (rest := []) ⟨hx, hb, hml, hown, hts⟩ hK hP hS (c_X9_notMoved l E σ h0 sh ix ot jx nn g0 (by exact hz5)) (cwV 5 hts gX9_move_X9_notMoved rfl rfl rfl (by decide +kernel) ⟨Nat.le_of_ble_eq_true rfl, Nat.le_of_ble_eq_true rfl⟩) (g0.1) rfl rfl hl.1 rfl (Nat.le_of_ble_eq_true rfl) dX9_move_8 ⟨Nat.zero_le _, Nat.zero_le _⟩ (fun r1 H locs f1 hP1 hS1 => ?_)
  replace hP := hP1
  replace hS := hS1
  clear hP1 hS1
  skip
  refine lv_istore (lv' := [(6, .int r1), (0, .ref h0), (1, .int sh), (2, .int ix), (3, .int ot), (4, .int jx), (5, .int nn)]) hx hb dX9_move_11 hl (by decide) rfl (fun ls hl => ?_)
  refine lv_iload hx hb dX9_move_13 (lv_at hl 0 rfl) ?_
  refine lv_if_eq (tgt := 25) hx hb dX9_move_15 (by decide) (fun c2 => ?_) (fun c2 => ?_)
  · have c2 := zz_eqT c2
    refine lv_iconst (v := 0) hx hb dX9_move_25 (by decide) ?_
    refine lv_istore (lv' := [(7, .int 0), (6, .int r1), (0, .ref h0), (1, .int sh), (2, .int ix), (3, .int ot), (4, .int jx), (5, .int nn)]) hx hb dX9_move_26 hl (by decide) rfl (fun ls hl => ?_)
    have J28 : ∀ (n : Nat) (ii : Int32) (σa : zz_S) (H : Heap) (locs : List Loc) (ls : Array Slot), ((nn.toInt - ii.toInt).toNat) < n → (zz_ch (fun a k => (a = h0 + 3 ∨ (h0 + 7 ≤ a ∧ a ≤ h0 + 11)) ∨ a = h0 + 6) σ σa) → (0 ≤ ii.toInt ∧ ii.toInt ≤ nn.toInt) → (∀ t : Nat, t < 96 → ((ix.toInt < jx.toInt ∧ 24 * ot.toInt + jx.toInt + nn.toInt - ii.toInt ≤ (t : Int) ∧ (t : Int) < 24 * ot.toInt + jx.toInt + nn.toInt) ∨ (jx.toInt ≤ ix.toInt ∧ 24 * ot.toInt + jx.toInt ≤ (t : Int) ∧ (t : Int) < 24 * ot.toInt + jx.toInt + ii.toInt)) → σa (h0 + 6) t = σ (h0 + 6) ((t : Int) - (24 * ot.toInt + jx.toInt) + (24 * sh.toInt + ix.toInt)).toNat) → (∀ t : Nat, t < 96 → ¬ ((ix.toInt < jx.toInt ∧ 24 * ot.toInt + jx.toInt + nn.toInt - ii.toInt ≤ (t : Int) ∧ (t : Int) < 24 * ot.toInt + jx.toInt + nn.toInt) ∨ (jx.toInt ≤ ix.toInt ∧ 24 * ot.toInt + jx.toInt ≤ (t : Int) ∧ (t : Int) < 24 * ot.toInt + jx.toInt + ii.toInt)) → σa (h0 + 6) t = σ (h0 + 6) t) → (σa (h0 + 1) 2 = σ (h0 + 1) 2) → (σa (h0 + 1) 3 = σ (h0 + 1) 3) → (σa (h0 + 1) 0 = σ (h0 + 1) 0) → zz_P E σa H → va_S (zz_A E) s.heap H locs → lv_has ls 9 [(7, .int ii), (6, .int r1), (0, .ref h0), (1, .int sh), (2, .int ix), (3, .int ot), (4, .int jx), (5, .int nn)] → W p l e (headSpec wzX9_move ({ frames := 3, cells := 0, slots := 0, locals := 68 })).room s m args below meth c H locs 0 0 (MQ below (va_Qi (fun r σ1 => zz_ch (fun a k => (a = h0 + 3 ∨ (h0 + 7 ≤ a ∧ a ≤ h0 + 11)) ∨ a = h0 + 6) σ σ1 ∧ ((¬ ((0 ≤ sh.toInt ∧ sh.toInt ≤ 3) ∧ 0 ≤ ot.toInt ∧ ot.toInt ≤ 3) ∧ r.toInt = -1000000001 ∧ zz_CM σ1 (h0 + 6) = zz_CM σ (h0 + 6)) ∨ (((0 ≤ sh.toInt ∧ sh.toInt ≤ 3) ∧ 0 ≤ ot.toInt ∧ ot.toInt ≤ 3) ∧ (zz_HM σ (h0 + 4) sh.toInt.toNat = 0 ∨ zz_HM σ (h0 + 4) ot.toInt.toNat = 0) ∧ r.toInt = -1000000002 ∧ zz_CM σ1 (h0 + 6) = zz_CM σ (h0 + 6)) ∨ (((0 ≤ sh.toInt ∧ sh.toInt ≤ 3) ∧ 0 ≤ ot.toInt ∧ ot.toInt ≤ 3) ∧ (zz_HM σ (h0 + 4) sh.toInt.toNat ≠ 0 ∧ zz_HM σ (h0 + 4) ot.toInt.toNat ≠ 0 ∧ zz_HM σ (h0 + 4) sh.toInt.toNat ≠ zz_HM σ (h0 + 4) ot.toInt.toNat) ∧ r.toInt = -1000000005 ∧ zz_CM σ1 (h0 + 6) = zz_CM σ (h0 + 6)) ∨ (((0 ≤ sh.toInt ∧ sh.toInt ≤ 3) ∧ 0 ≤ ot.toInt ∧ ot.toInt ≤ 3) ∧ (zz_HM σ (h0 + 4) sh.toInt.toNat ≠ 0 ∧ zz_HM σ (h0 + 4) sh.toInt.toNat = zz_HM σ (h0 + 4) ot.toInt.toNat ∧ ¬ (0 ≤ nn.toInt ∧ 0 ≤ ix.toInt ∧ 0 ≤ jx.toInt ∧ ix.toInt + nn.toInt ≤ zz_HM σ (h0 + 5) sh.toInt.toNat ∧ jx.toInt + nn.toInt ≤ zz_HM σ (h0 + 5) ot.toInt.toNat)) ∧ r.toInt = -1000000001 ∧ zz_CM σ1 (h0 + 6) = zz_CM σ (h0 + 6)) ∨ (((0 ≤ sh.toInt ∧ sh.toInt ≤ 3) ∧ 0 ≤ ot.toInt ∧ ot.toInt ≤ 3) ∧ (zz_HM σ (h0 + 4) sh.toInt.toNat ≠ 0 ∧ zz_HM σ (h0 + 4) sh.toInt.toNat = zz_HM σ (h0 + 4) ot.toInt.toNat ∧ (0 ≤ nn.toInt ∧ 0 ≤ ix.toInt ∧ 0 ≤ jx.toInt ∧ ix.toInt + nn.toInt ≤ zz_HM σ (h0 + 5) sh.toInt.toNat ∧ jx.toInt + nn.toInt ≤ zz_HM σ (h0 + 5) ot.toInt.toNat)) ∧ r.toInt = nn.toInt ∧ zz_CM σ1 (h0 + 6) = zz_mv (zz_CM σ (h0 + 6)) sh.toInt ix.toInt ot.toInt jx.toInt nn.toInt))) (zz_B E) (zz_A E)) args s 0 0 (zz_A E)) (F0 m 28 ls []) := by
      intro n
      induction n with
      | zero => intro ii σa H locs ls hm; exact absurd hm (Nat.not_lt_zero _)
      | succ n ih28 =>
        intro ii σa H locs ls hm hC f28_0 f28_1 f28_2 t0 t1 t2 hP hS hl
        skip
        refine lv_iload hx hb dX9_move_28 (lv_at hl 0 rfl) ?_
        refine lv_iload hx hb dX9_move_30 (lv_at hl 7 rfl) ?_
        refine lv_icmp_ge (tgt := 90) hx hb dX9_move_32 (by decide) (fun c3 => ?_) (fun c3 => ?_)
        · have c3 := zz_leT c3
          refine lv_iload hx hb dX9_move_90 (lv_at hl 7 rfl) ?_
          have z := f1.resolve_left (fun q => by omega)
          have z := z.resolve_left (fun q => by omega)
          have z := z.resolve_left (fun q => by omega)
          have z := z.resolve_left (fun q => by omega)
          exact zz_iret hx hb hr hlocks hK hP hS dX9_move_92 (by exact ⟨hC, Or.inr (Or.inr (Or.inr (Or.inr (⟨by omega, by omega, rfl, zz_CM.mv (by omega) (by omega) (by omega) (by omega) (by omega) (by omega) (by omega) (fun t ht q1 q2 => f28_1 t ht (by omega)) (fun t ht q => f28_2 t ht (by omega))⟩))))⟩)
        · have c3 := zz_nleT c3
          refine lv_iload_n hx hb dX9_move_35 rfl (lv_at hl 4 rfl) ?_
          refine lv_iload hx hb dX9_move_36 (lv_at hl 6 rfl) ?_
          refine lv_icmp_ge (tgt := 51) hx hb dX9_move_38 (by decide) (fun c4 => ?_) (fun c4 => ?_)
          · have c4 := zz_leT c4
            refine lv_iload hx hb dX9_move_51 (lv_at hl 0 rfl) ?_
            refine lv_istore (lv' := [(8, .int ii), (7, .int ii), (6, .int r1), (0, .ref h0), (1, .int sh), (2, .int ix), (3, .int ot), (4, .int jx), (5, .int nn)]) hx hb dX9_move_53 hl (by decide) rfl (fun ls hl => ?_)
            refine lv_aload_n hx hb dX9_move_55 rfl (lv_at hl 3 rfl) ?_
            refine zz_getr hx hb hts hi9 hown hK hP (g0.1) rfl 6 (by decide) (hts (.fieldLink RX9 25 "NoonLawModel" "cells" "[I") (List.mem_cons_of_mem _ bm_98)) rfl rfl dX9_move_56 ?_
            refine lv_bipush (v := 24) hx hb dX9_move_59 (by decide) ?_
            refine lv_iload_n hx hb dX9_move_61 rfl (lv_at hl 6 rfl) ?_
            refine lv_imul hx hb dX9_move_62 ?_
            refine lv_topi (fun n5 e5 => ?_)
            have f5 : n5.toInt = 24 * (ot).toInt := zz_mulL 24 e5 (by decide) (by omega) (by omega)
            refine lv_iload hx hb dX9_move_63 (lv_at hl 7 rfl) ?_
            refine lv_iadd hx hb dX9_move_65 ?_
            refine lv_topi (fun n6 e6 => ?_)
            have f6 : n6.toInt = (n5).toInt + (jx).toInt := zz_addT e6 (by omega) (by omega)
            refine lv_iload hx hb dX9_move_66 (lv_at hl 0 rfl) ?_
            refine lv_iadd hx hb dX9_move_68 ?_
            refine lv_topi (fun n7 e7 => ?_)
            have f7 : n7.toInt = (n6).toInt + (ii).toInt := zz_addT e7 (by omega) (by omega)
            refine lv_aload_n hx hb dX9_move_69 rfl (lv_at hl 3 rfl) ?_
            refine zz_getr hx hb hts hi9 hown hK hP (g0.1) rfl 6 (by decide) (hts (.fieldLink RX9 25 "NoonLawModel" "cells" "[I") (List.mem_cons_of_mem _ bm_98)) rfl rfl dX9_move_70 ?_
            refine lv_bipush (v := 24) hx hb dX9_move_73 (by decide) ?_
            refine lv_iload_n hx hb dX9_move_75 rfl (lv_at hl 4 rfl) ?_
            refine lv_imul hx hb dX9_move_76 ?_
            refine lv_topi (fun n8 e8 => ?_)
            have f8 : n8.toInt = 24 * (sh).toInt := zz_mulL 24 e8 (by decide) (by omega) (by omega)
            refine lv_iload_n hx hb dX9_move_77 rfl (lv_at hl 5 rfl) ?_
            refine lv_iadd hx hb dX9_move_78 ?_
            refine lv_topi (fun n9 e9 => ?_)
            have f9 : n9.toInt = (n8).toInt + (ix).toInt := zz_addT e9 (by omega) (by omega)
            refine lv_iload hx hb dX9_move_79 (lv_at hl 0 rfl) ?_
            refine lv_iadd hx hb dX9_move_81 ?_
            refine lv_topi (fun n10 e10 => ?_)
            have f10 : n10.toInt = (n9).toInt + (ii).toInt := zz_addT e10 (by omega) (by omega)
            refine zz_iald hx hb hK hP (g0.2.2.2.2.2.2.1) (by omega) (by omega) dX9_move_82 (fun j11 q11 r11 => ?_)
            refine zz_iast hx hb hK hP hS (g0.2.2.2.2.2.2.1) (by omega) (by omega) dX9_move_83 (fun j12 σ12 H locs q12 r12 w12 hP1 hS1 => ?_)
            replace hP := hP1
            replace hS := hS1
            clear hP1 hS1
            replace hC := hC.u w12 (dS23_7 h0)
            replace t0 : σ12 (h0 + 1) 2 = σ (h0 + 1) 2 := (zz_w (b := (h0 + 1)) (j := 2) w12 (fun q9 => zz_na (a := h0) (i := 1) (j := 6) (by decide) q9.1)).trans t0
            replace t1 : σ12 (h0 + 1) 3 = σ (h0 + 1) 3 := (zz_w (b := (h0 + 1)) (j := 3) w12 (fun q9 => zz_na (a := h0) (i := 1) (j := 6) (by decide) q9.1)).trans t1
            replace t2 : σ12 (h0 + 1) 0 = σ (h0 + 1) 0 := (zz_w (b := (h0 + 1)) (j := 0) w12 (fun q9 => zz_na (a := h0) (i := 1) (j := 6) (by decide) q9.1)).trans t2
            obtain ⟨n13, e13⟩ : ∃ y : Int32, y = ii + 1 := ⟨_, rfl⟩
            have f13 : n13.toInt = (ii).toInt + (1) := by have h9 := zz_addT e13 (by omega) (by omega); omega
            refine lv_iinc (v := n13) (lv' := [(7, .int n13), (8, .int ii), (6, .int r1), (0, .ref h0), (1, .int sh), (2, .int ix), (3, .int ot), (4, .int jx), (5, .int nn)]) hx hb dX9_move_84 hl (k := 1) rfl (by rw [e13]; rfl) (by decide) rfl (fun ls hl => ?_)
            refine lv_goto (tgt := 28) hx hb dX9_move_87 (by decide) ?_
            exact ih28 n13 σ12 _ _ _ (by omega) hC (by omega) (by intro t ht hq; exact if hz : t = j12 then (by rw [hz, w12, zz_us, f28_2 j11 (by omega) (by omega)]; exact congrArg (σ (h0 + 6)) (by omega)) else (by rw [w12, zz_un (by omega)]; exact f28_1 t ht (by omega))) (by intro t ht hq; rw [w12, zz_un (by omega)]; exact f28_2 t ht (by omega)) t0 t1 t2 hP hS (lv_sub hl [0, 2, 3, 4, 5, 6, 7, 8] rfl)
          · have c4 := zz_nleT c4
            refine lv_iload hx hb dX9_move_41 (lv_at hl 7 rfl) ?_
            refine lv_iconst (v := 1) hx hb dX9_move_43 (by decide) ?_
            refine lv_isub hx hb dX9_move_44 ?_
            refine lv_topi (fun n14 e14 => ?_)
            have f14 : n14.toInt = (nn).toInt - (1 : Int32).toInt := zz_subT e14 (by omega) (by omega)
            refine lv_iload hx hb dX9_move_45 (lv_at hl 0 rfl) ?_
            refine lv_isub hx hb dX9_move_47 ?_
            refine lv_topi (fun n15 e15 => ?_)
            have f15 : n15.toInt = (n14).toInt - (ii).toInt := zz_subT e15 (by omega) (by omega)
            refine lv_goto (tgt := 53) hx hb dX9_move_48 (by decide) ?_
            refine lv_istore (lv' := [(8, .int n15), (7, .int ii), (6, .int r1), (0, .ref h0), (1, .int sh), (2, .int ix), (3, .int ot), (4, .int jx), (5, .int nn)]) hx hb dX9_move_53 hl (by decide) rfl (fun ls hl => ?_)
            refine lv_aload_n hx hb dX9_move_55 rfl (lv_at hl 3 rfl) ?_
            refine zz_getr hx hb hts hi9 hown hK hP (g0.1) rfl 6 (by decide) (hts (.fieldLink RX9 25 "NoonLawModel" "cells" "[I") (List.mem_cons_of_mem _ bm_98)) rfl rfl dX9_move_56 ?_
            refine lv_bipush (v := 24) hx hb dX9_move_59 (by decide) ?_
            refine lv_iload_n hx hb dX9_move_61 rfl (lv_at hl 6 rfl) ?_
            refine lv_imul hx hb dX9_move_62 ?_
            refine lv_topi (fun n16 e16 => ?_)
            have f16 : n16.toInt = 24 * (ot).toInt := zz_mulL 24 e16 (by decide) (by omega) (by omega)
            refine lv_iload hx hb dX9_move_63 (lv_at hl 7 rfl) ?_
            refine lv_iadd hx hb dX9_move_65 ?_
            refine lv_topi (fun n17 e17 => ?_)
            have f17 : n17.toInt = (n16).toInt + (jx).toInt := zz_addT e17 (by omega) (by omega)
            refine lv_iload hx hb dX9_move_66 (lv_at hl 0 rfl) ?_
            refine lv_iadd hx hb dX9_move_68 ?_
            refine lv_topi (fun n18 e18 => ?_)
            have f18 : n18.toInt = (n17).toInt + (n15).toInt := zz_addT e18 (by omega) (by omega)
            refine lv_aload_n hx hb dX9_move_69 rfl (lv_at hl 3 rfl) ?_
            refine zz_getr hx hb hts hi9 hown hK hP (g0.1) rfl 6 (by decide) (hts (.fieldLink RX9 25 "NoonLawModel" "cells" "[I") (List.mem_cons_of_mem _ bm_98)) rfl rfl dX9_move_70 ?_
            refine lv_bipush (v := 24) hx hb dX9_move_73 (by decide) ?_
            refine lv_iload_n hx hb dX9_move_75 rfl (lv_at hl 4 rfl) ?_
            refine lv_imul hx hb dX9_move_76 ?_
            refine lv_topi (fun n19 e19 => ?_)
            have f19 : n19.toInt = 24 * (sh).toInt := zz_mulL 24 e19 (by decide) (by omega) (by omega)
            refine lv_iload_n hx hb dX9_move_77 rfl (lv_at hl 5 rfl) ?_
            refine lv_iadd hx hb dX9_move_78 ?_
            refine lv_topi (fun n20 e20 => ?_)
            have f20 : n20.toInt = (n19).toInt + (ix).toInt := zz_addT e20 (by omega) (by omega)
            refine lv_iload hx hb dX9_move_79 (lv_at hl 0 rfl) ?_
            refine lv_iadd hx hb dX9_move_81 ?_
            refine lv_topi (fun n21 e21 => ?_)
            have f21 : n21.toInt = (n20).toInt + (n15).toInt := zz_addT e21 (by omega) (by omega)
            refine zz_iald hx hb hK hP (g0.2.2.2.2.2.2.1) (by omega) (by omega) dX9_move_82 (fun j22 q22 r22 => ?_)
            refine zz_iast hx hb hK hP hS (g0.2.2.2.2.2.2.1) (by omega) (by omega) dX9_move_83 (fun j23 σ23 H locs q23 r23 w23 hP1 hS1 => ?_)
            replace hP := hP1
            replace hS := hS1
            clear hP1 hS1
            replace hC := hC.u w23 (dS23_7 h0)
            replace t0 : σ23 (h0 + 1) 2 = σ (h0 + 1) 2 := (zz_w (b := (h0 + 1)) (j := 2) w23 (fun q9 => zz_na (a := h0) (i := 1) (j := 6) (by decide) q9.1)).trans t0
            replace t1 : σ23 (h0 + 1) 3 = σ (h0 + 1) 3 := (zz_w (b := (h0 + 1)) (j := 3) w23 (fun q9 => zz_na (a := h0) (i := 1) (j := 6) (by decide) q9.1)).trans t1
            replace t2 : σ23 (h0 + 1) 0 = σ (h0 + 1) 0 := (zz_w (b := (h0 + 1)) (j := 0) w23 (fun q9 => zz_na (a := h0) (i := 1) (j := 6) (by decide) q9.1)).trans t2
            obtain ⟨n24, e24⟩ : ∃ y : Int32, y = ii + 1 := ⟨_, rfl⟩
            have f24 : n24.toInt = (ii).toInt + (1) := by have h9 := zz_addT e24 (by omega) (by omega); omega
            refine lv_iinc (v := n24) (lv' := [(7, .int n24), (8, .int n15), (6, .int r1), (0, .ref h0), (1, .int sh), (2, .int ix), (3, .int ot), (4, .int jx), (5, .int nn)]) hx hb dX9_move_84 hl (k := 1) rfl (by rw [e24]; rfl) (by decide) rfl (fun ls hl => ?_)
            refine lv_goto (tgt := 28) hx hb dX9_move_87 (by decide) ?_
            exact ih28 n24 σ23 _ _ _ (by omega) hC (by omega) (by intro t ht hq; exact if hz : t = j23 then (by rw [hz, w23, zz_us, f28_2 j22 (by omega) (by omega)]; exact congrArg (σ (h0 + 6)) (by omega)) else (by rw [w23, zz_un (by omega)]; exact f28_1 t ht (by omega))) (by intro t ht hq; rw [w23, zz_un (by omega)]; exact f28_2 t ht (by omega)) t0 t1 t2 hP hS (lv_sub hl [0, 2, 3, 4, 5, 6, 7, 8] rfl)
    exact J28 _ 0 σ _ _ _ (Nat.lt_succ_self _) hC (by omega) (by intro t ht hq; omega) (by intro t ht hq; rfl) t0 t1 t2 hP hS (lv_sub hl [0, 1, 2, 3, 4, 5, 6, 7] rfl)
  · have c2 := zz_neT c2
    refine lv_aload_n hx hb dX9_move_18 rfl (lv_at hl 1 rfl) ?_
    refine lv_iload hx hb dX9_move_19 (lv_at hl 0 rfl) ?_
    refine zz_callVi (As := [.int r1]) (rest := []) ⟨hx, hb, hml, hown, hts⟩ hK hP hS (c_X9_error l E σ h0 r1 g0 (by omega)) (cwV 1 hts gX9_move_X9_error rfl rfl rfl (by decide +kernel) ⟨Nat.le_of_ble_eq_true rfl, Nat.le_of_ble_eq_true rfl⟩) (g0.1) rfl rfl hl.1 rfl (Nat.le_of_ble_eq_true rfl) dX9_move_21 ⟨Nat.zero_le _, Nat.zero_le _⟩ (fun r25 σ25 H locs q25 hP1 hS1 => ?_)
    replace hP := hP1
    replace hS := hS1
    clear hP1 hS1
    try dsimp only at q25
    obtain ⟨w25, f25⟩ := q25
    replace hC := hC.tr (w25.mono (dS23_8 h0))
    replace t0 : σ25 (h0 + 1) 2 = σ (h0 + 1) 2 := (w25 (h0 + 1) 2 (dS23_2 h0)).trans t0
    replace t1 : σ25 (h0 + 1) 3 = σ (h0 + 1) 3 := (w25 (h0 + 1) 3 (dS23_2 h0)).trans t1
    replace t2 : σ25 (h0 + 1) 0 = σ (h0 + 1) 0 := (w25 (h0 + 1) 0 (dS23_2 h0)).trans t2
    rcases f1 with z | z | z | z | z
    · exact zz_iret hx hb hr hlocks hK hP hS dX9_move_24 (by exact ⟨hC, Or.inl ⟨by omega, by omega, (zz_CM.eq (fun k hk => w25 _ _ (by first | (dsimp only; omega) | omega)))⟩⟩)
    · exact zz_iret hx hb hr hlocks hK hP hS dX9_move_24 (by exact ⟨hC, Or.inr (Or.inl ⟨by omega, by omega, by omega, (zz_CM.eq (fun k hk => w25 _ _ (by first | (dsimp only; omega) | omega)))⟩)⟩)
    · exact zz_iret hx hb hr hlocks hK hP hS dX9_move_24 (by exact ⟨hC, Or.inr (Or.inr (Or.inl ⟨by omega, by omega, by omega, (zz_CM.eq (fun k hk => w25 _ _ (by first | (dsimp only; omega) | omega)))⟩))⟩)
    · exact zz_iret hx hb hr hlocks hK hP hS dX9_move_24 (by exact ⟨hC, Or.inr (Or.inr (Or.inr (Or.inl ⟨by omega, by omega, by omega, (zz_CM.eq (fun k hk => w25 _ _ (by first | (dsimp only; omega) | omega)))⟩)))⟩)
    · exact zz_iret hx hb hr hlocks hK hP hS dX9_move_24 (by exact absurd z.2.2 (by omega))
