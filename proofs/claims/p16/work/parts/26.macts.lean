theorem gX9_clock_X9_in : GoodIn wzX9_clock (va_wsS RX9 47 yX9_in wzX9_in) := wz_co bm_143 (wz_co bm_144 (wz_co bm_5 (wz_in bm_145)))
theorem gX9_clock_X9_becomes : GoodIn wzX9_clock (wsV RX9 104 RX9 yX9_becomes wzX9_becomes) := wz_co bm_278 (wz_co bm_279 (wz_co bm_280 (wz_co bm_5 (wz_in bm_281))))
theorem gX9_clock_X9_error : GoodIn wzX9_clock (wsV RX9 94 RX9 yX9_error wzX9_error) := wz_co bm_146 (wz_co bm_147 (wz_co bm_148 (wz_co bm_5 (wz_in bm_149))))
theorem dS26_1 (x0 : Nat) : ∀ a k : Nat, (a = (x0) + 3) → ((a = x0 + 3 ∨ (x0 + 7 ≤ a ∧ a ≤ x0 + 11)) ∨ (a = x0 + 1 ∧ (k = 0 ∨ k = 4))) := by intro a k h; omega
set_option maxHeartbeats 4000000 in
set_option maxRecDepth 100000 in
theorem c_X9_clock (l : Launch) (E : zz_E) (σ : zz_S) (h0 : Nat) (what : Int32) (v : Int32) (g0 : zz_M E h0) (hJ : zz_IM σ h0) : Met l yX9_clock wzX9_clock ({ frames := 1, cells := 0, slots := 0, locals := 23 }) (va_Pc [.ref h0, .int what, .int v] (zz_B E σ)) (va_Qi (fun r σ1 => zz_ch (fun a k => (a = h0 + 3 ∨ (h0 + 7 ≤ a ∧ a ≤ h0 + 11)) ∨ (a = h0 + 1 ∧ (k = 0 ∨ k = 4))) σ σ1 ∧ (zz_IM σ1 h0 ∧ ((what.toInt = 0 ∧ 0 ≤ v.toInt ∧ v.toInt ≤ 9999 ∧ r.toInt = (σ (h0 + 1) 0).toInt ∧ (σ1 (h0 + 1) 0).toInt = v.toInt ∧ (σ1 (h0 + 1) 4).toInt = (σ (h0 + 1) 4).toInt) ∨ (what.toInt = 1 ∧ 13 ≤ v.toInt ∧ v.toInt ≤ 24 ∧ r.toInt = (σ (h0 + 1) 4).toInt ∧ (σ1 (h0 + 1) 4).toInt = v.toInt ∧ (σ1 (h0 + 1) 0).toInt = (σ (h0 + 1) 0).toInt) ∨ (¬ (what.toInt = 0 ∧ 0 ≤ v.toInt ∧ v.toInt ≤ 9999) ∧ ¬ (what.toInt = 1 ∧ 13 ≤ v.toInt ∧ v.toInt ≤ 24) ∧ r.toInt = -1000000001 ∧ (σ1 (h0 + 1) 0).toInt = (σ (h0 + 1) 0).toInt ∧ (σ1 (h0 + 1) 4).toInt = (σ (h0 + 1) 4).toInt)))) (zz_B E) (zz_A E)) 0 0 (zz_A E) := by
  refine zz_met (cc := cX9_clock) (maxL := 4) (ret := (some .int)) (by decide) rfl (Nat.le_of_ble_eq_true rfl) ?_
  intro p e s m args below meth c ls hx hb hr hts hown hlocks hml hK hP hS hl
  have hl : lv_has ls 4 [(0, .ref h0), (1, .int what), (2, .int v)] := hl
  have hown : s.vm.findClass RX9 = some m.cls := hown
  have k_m1000000001 : ((-1000000001) : Int32).toInt = -1000000001 := by decide +kernel
  have k_0 : (0 : Int32).toInt = 0 := by decide +kernel
  have k_1 : (1 : Int32).toInt = 1 := by decide +kernel
  have k_4 : (4 : Int32).toInt = 4 := by decide +kernel
  have k_13 : (13 : Int32).toInt = 13 := by decide +kernel
  have k_24 : (24 : Int32).toInt = 24 := by decide +kernel
  have k_9999 : (9999 : Int32).toInt = 9999 := by decide +kernel
  have hC : zz_ch (fun a k => (a = h0 + 3 ∨ (h0 + 7 ≤ a ∧ a ≤ h0 + 11)) ∨ (a = h0 + 1 ∧ (k = 0 ∨ k = 4))) σ σ := zz_ch.rf σ
  have hI := hJ.1
  obtain ⟨hh, hsl, hd, hp, htc, hwc, hM, hT⟩ := id hI
  have hz5 := hJ.2.2.1
  have htr := hJ.2.2.2
  have J37 : ∀ (ok : Int32) (H : Heap) (locs : List Loc) (ls : Array Slot),  ((ok.toInt = 1 ∧ ((what.toInt = 0 ∧ 0 ≤ v.toInt ∧ v.toInt ≤ 9999) ∨ (what.toInt = 1 ∧ 13 ≤ v.toInt ∧ v.toInt ≤ 24))) ∨ (ok.toInt = 0 ∧ ¬ (what.toInt = 0 ∧ 0 ≤ v.toInt ∧ v.toInt ≤ 9999) ∧ ¬ (what.toInt = 1 ∧ 13 ≤ v.toInt ∧ v.toInt ≤ 24))) → zz_P E σ H → va_S (zz_A E) s.heap H locs → lv_has ls 4 [(0, .ref h0), (1, .int what), (2, .int v), (3, .int ok)] → W p l e (headSpec wzX9_clock ({ frames := 1, cells := 0, slots := 0, locals := 23 })).room s m args below meth c H locs 0 0 (MQ below (va_Qi (fun r σ1 => zz_ch (fun a k => (a = h0 + 3 ∨ (h0 + 7 ≤ a ∧ a ≤ h0 + 11)) ∨ (a = h0 + 1 ∧ (k = 0 ∨ k = 4))) σ σ1 ∧ (zz_IM σ1 h0 ∧ ((what.toInt = 0 ∧ 0 ≤ v.toInt ∧ v.toInt ≤ 9999 ∧ r.toInt = (σ (h0 + 1) 0).toInt ∧ (σ1 (h0 + 1) 0).toInt = v.toInt ∧ (σ1 (h0 + 1) 4).toInt = (σ (h0 + 1) 4).toInt) ∨ (what.toInt = 1 ∧ 13 ≤ v.toInt ∧ v.toInt ≤ 24 ∧ r.toInt = (σ (h0 + 1) 4).toInt ∧ (σ1 (h0 + 1) 4).toInt = v.toInt ∧ (σ1 (h0 + 1) 0).toInt = (σ (h0 + 1) 0).toInt) ∨ (¬ (what.toInt = 0 ∧ 0 ≤ v.toInt ∧ v.toInt ≤ 9999) ∧ ¬ (what.toInt = 1 ∧ 13 ≤ v.toInt ∧ v.toInt ≤ 24) ∧ r.toInt = -1000000001 ∧ (σ1 (h0 + 1) 0).toInt = (σ (h0 + 1) 0).toInt ∧ (σ1 (h0 + 1) 4).toInt = (σ (h0 + 1) 4).toInt)))) (zz_B E) (zz_A E)) args s 0 0 (zz_A E)) (F0 m 37 ls []) := by
    intro ok H locs ls f37_0 hP hS hl
    refine lv_iload_n hx hb dX9_clock_37 rfl (lv_at hl 3 rfl) ?_
    refine lv_if_eq (tgt := 58) hx hb dX9_clock_38 (by decide) (fun c1 => ?_) (fun c1 => ?_)
    · have c1 := zz_eqT c1
      refine lv_aload_n hx hb dX9_clock_58 rfl (lv_at hl 0 rfl) ?_
      refine lv_ldc (v := (-1000000001)) hx hb hown (hts (.constant RX9 93 (-1000000001)) (List.mem_cons_of_mem _ bm_138)) dX9_clock_59 ?_
      refine zz_callVi (As := [.int (-1000000001)]) (rest := []) ⟨hx, hb, hml, hown, hts⟩ hK hP hS (c_X9_error l E σ h0 (-1000000001) g0 (by omega)) (cwV 1 hts gX9_clock_X9_error rfl rfl rfl (by decide +kernel) ⟨Nat.le_of_ble_eq_true rfl, Nat.le_of_ble_eq_true rfl⟩) (g0.1) rfl rfl hl.1 rfl (Nat.le_of_ble_eq_true rfl) dX9_clock_61 ⟨Nat.zero_le _, Nat.zero_le _⟩ (fun r2 σ2 H locs q2 hP1 hS1 => ?_)
      replace hP := hP1
      replace hS := hS1
      clear hP1 hS1
      try dsimp only at q2
      obtain ⟨w2, f2⟩ := q2
      replace hC := hC.tr (w2.mono (dS26_1 h0))
      exact zz_iret hx hb hr hlocks hK hP hS dX9_clock_64 (by have hb9 : σ2 (h0 + 1) 0 = σ (h0 + 1) 0 := (w2 _ _ (by first | (dsimp only; omega) | omega)); have hb8 : σ2 (h0 + 1) 4 = σ (h0 + 1) 4 := (w2 _ _ (by first | (dsimp only; omega) | omega)); exact ⟨hC, (hJ.soft (w2.mono (by intro a k h; omega))), by rw [hb9, hb8]; omega⟩)
    · have c1 := zz_neT c1
      refine lv_aload_n hx hb dX9_clock_41 rfl (lv_at hl 0 rfl) ?_
      refine lv_iload_n hx hb dX9_clock_42 rfl (lv_at hl 1 rfl) ?_
      refine lv_if_ne (tgt := 50) hx hb dX9_clock_43 (by decide) (fun c3 => ?_) (fun c3 => ?_)
      · have c3 := zz_neT c3
        refine lv_iconst (v := 4) hx hb dX9_clock_50 (by decide) ?_
        refine lv_iload_n hx hb dX9_clock_51 rfl (lv_at hl 2 rfl) ?_
        skip
        refine zz_callVi (As := [.int 4, .int v]) (rest := []) ⟨hx, hb, hml, hown, hts⟩ hK hP hS (c_X9_becomes l E σ h0 4 v g0 (by omega)) (cwV 2 hts gX9_clock_X9_becomes rfl rfl rfl (by decide +kernel) ⟨Nat.le_of_ble_eq_true rfl, Nat.le_of_ble_eq_true rfl⟩) (g0.1) rfl rfl hl.1 rfl (Nat.le_of_ble_eq_true rfl) dX9_clock_52 ⟨Nat.zero_le _, Nat.zero_le _⟩ (fun r4 σ4 H locs q4 hP1 hS1 => ?_)
        replace hP := hP1
        replace hS := hS1
        clear hP1 hS1
        try dsimp only at q4
        obtain ⟨w4, f4⟩ := q4
        replace hC := hC.tr (w4.mono (by intro a k h; first | (dsimp only at h ⊢; omega) | omega | (dsimp only at h; omega) | (dsimp only; omega)))
        refine lv_goto (tgt := 64) hx hb dX9_clock_55 (by decide) ?_
        exact zz_iret hx hb hr hlocks hK hP hS dX9_clock_64 (by have hb9 := f4.2.1; rw [show (4 : Int32).toInt.toNat = 4 from by decide] at hb9; have hb8 : σ4 (h0 + 1) 0 = σ (h0 + 1) 0 := w4 _ _ (by first | (dsimp only; omega) | omega); have hr9 := congrArg Int32.toInt f4.1; rw [show (4 : Int32).toInt.toNat = 4 from by decide] at hr9; exact ⟨hC, (hJ.row (hI.scal (fun k hk => hC _ _ (by first | (dsimp only; omega) | omega)) (fun j hj => by rw [hC _ _ (by first | (dsimp only; omega) | omega)]; exact hM j hj) (by rw [hb8]; omega) (by rw [hb9]; omega) (by rw [w4 _ _ (by first | (dsimp only; omega) | omega)]; omega) (by rw [w4 _ _ (by first | (dsimp only; omega) | omega)]; omega) (by rw [w4 _ _ (by first | (dsimp only; omega) | omega)]; omega) (by rw [w4 _ _ (by first | (dsimp only; omega) | omega)]; omega)) (hC.mono (by intro a k h; first | (dsimp only at h ⊢; omega) | omega))), by rw [hb9, hb8]; omega⟩)
      · have c3 := zz_eqT c3
        refine lv_iconst (v := 0) hx hb dX9_clock_46 (by decide) ?_
        refine lv_goto (tgt := 51) hx hb dX9_clock_47 (by decide) ?_
        refine lv_iload_n hx hb dX9_clock_51 rfl (lv_at hl 2 rfl) ?_
        skip
        refine zz_callVi (As := [.int 0, .int v]) (rest := []) ⟨hx, hb, hml, hown, hts⟩ hK hP hS (c_X9_becomes l E σ h0 0 v g0 (by omega)) (cwV 2 hts gX9_clock_X9_becomes rfl rfl rfl (by decide +kernel) ⟨Nat.le_of_ble_eq_true rfl, Nat.le_of_ble_eq_true rfl⟩) (g0.1) rfl rfl hl.1 rfl (Nat.le_of_ble_eq_true rfl) dX9_clock_52 ⟨Nat.zero_le _, Nat.zero_le _⟩ (fun r5 σ5 H locs q5 hP1 hS1 => ?_)
        replace hP := hP1
        replace hS := hS1
        clear hP1 hS1
        try dsimp only at q5
        obtain ⟨w5, f5⟩ := q5
        replace hC := hC.tr (w5.mono (by intro a k h; first | (dsimp only at h ⊢; omega) | omega | (dsimp only at h; omega) | (dsimp only; omega)))
        refine lv_goto (tgt := 64) hx hb dX9_clock_55 (by decide) ?_
        exact zz_iret hx hb hr hlocks hK hP hS dX9_clock_64 (by have hb9 := f5.2.1; rw [show (0 : Int32).toInt.toNat = 0 from by decide] at hb9; have hb8 : σ5 (h0 + 1) 4 = σ (h0 + 1) 4 := w5 _ _ (by first | (dsimp only; omega) | omega); have hr9 := congrArg Int32.toInt f5.1; rw [show (0 : Int32).toInt.toNat = 0 from by decide] at hr9; exact ⟨hC, (hJ.row (hI.scal (fun k hk => hC _ _ (by first | (dsimp only; omega) | omega)) (fun j hj => by rw [hC _ _ (by first | (dsimp only; omega) | omega)]; exact hM j hj) (by rw [hb9]; omega) (by rw [hb8]; omega) (by rw [w5 _ _ (by first | (dsimp only; omega) | omega)]; omega) (by rw [w5 _ _ (by first | (dsimp only; omega) | omega)]; omega) (by rw [w5 _ _ (by first | (dsimp only; omega) | omega)]; omega) (by rw [w5 _ _ (by first | (dsimp only; omega) | omega)]; omega)) (hC.mono (by intro a k h; first | (dsimp only at h ⊢; omega) | omega))), by rw [hb9, hb8]; omega⟩)
  refine lv_iload_n hx hb dX9_clock_0 rfl (lv_at hl 1 rfl) ?_
  refine lv_if_ne (tgt := 15) hx hb dX9_clock_1 (by decide) (fun c6 => ?_) (fun c6 => ?_)
  · have c6 := zz_neT c6
    refine lv_iload_n hx hb dX9_clock_15 rfl (lv_at hl 1 rfl) ?_
    refine lv_iconst (v := 1) hx hb dX9_clock_16 (by decide) ?_
    refine lv_icmp_ne (tgt := 35) hx hb dX9_clock_17 (by decide) (fun c7 => ?_) (fun c7 => ?_)
    · have c7 := zz_neT c7
      refine lv_iconst (v := 0) hx hb dX9_clock_35 (by decide) ?_
      refine lv_istore_n (lv' := [(3, .int 0), (0, .ref h0), (1, .int what), (2, .int v)]) hx hb dX9_clock_36 rfl hl (by decide) rfl (fun ls hl => ?_)
      exact J37 0 _ _ _ (by first | omega | exact hI | exact hT) hP hS (lv_sub hl [1, 2, 3, 0] rfl)
    · have c7 := zz_eqT c7
      refine lv_iload_n hx hb dX9_clock_20 rfl (lv_at hl 2 rfl) ?_
      refine lv_bipush (v := 13) hx hb dX9_clock_21 (by decide) ?_
      refine lv_bipush (v := 24) hx hb dX9_clock_23 (by decide) ?_
      refine zz_callSp (As := [.int v, .int 13, .int 24]) (rest := []) ⟨hx, hb, hml, hown, hts⟩ hK hP hS (c_X9_in l E σ v 13 24) (va_cwS 3 hts gX9_clock_X9_in rfl rfl rfl (by decide +kernel) ⟨Nat.le_of_ble_eq_true rfl, Nat.le_of_ble_eq_true rfl⟩) rfl hl.1 rfl (Nat.le_of_ble_eq_true rfl) dX9_clock_25 ⟨Nat.zero_le _, Nat.zero_le _⟩ (fun r8 H locs f8 hP1 hS1 => ?_)
      replace hP := hP1
      replace hS := hS1
      clear hP1 hS1
      refine lv_if_eq (tgt := 35) hx hb dX9_clock_28 (by decide) (fun c9 => ?_) (fun c9 => ?_)
      · have c9 := zz_eqT c9
        refine lv_iconst (v := 0) hx hb dX9_clock_35 (by decide) ?_
        refine lv_istore_n (lv' := [(3, .int 0), (0, .ref h0), (1, .int what), (2, .int v)]) hx hb dX9_clock_36 rfl hl (by decide) rfl (fun ls hl => ?_)
        exact J37 0 _ _ _ (by first | omega | exact hI | exact hT) hP hS (lv_sub hl [1, 2, 3, 0] rfl)
      · have c9 := zz_neT c9
        refine lv_iconst (v := 1) hx hb dX9_clock_31 (by decide) ?_
        refine lv_goto (tgt := 36) hx hb dX9_clock_32 (by decide) ?_
        refine lv_istore_n (lv' := [(3, .int 1), (0, .ref h0), (1, .int what), (2, .int v)]) hx hb dX9_clock_36 rfl hl (by decide) rfl (fun ls hl => ?_)
        exact J37 1 _ _ _ (by first | omega | exact hI | exact hT) hP hS (lv_sub hl [1, 2, 3, 0] rfl)
  · have c6 := zz_eqT c6
    refine lv_iload_n hx hb dX9_clock_4 rfl (lv_at hl 2 rfl) ?_
    refine lv_iconst (v := 0) hx hb dX9_clock_5 (by decide) ?_
    refine lv_sipush (v := 9999) hx hb dX9_clock_6 (by decide) ?_
    refine zz_callSp (As := [.int v, .int 0, .int 9999]) (rest := []) ⟨hx, hb, hml, hown, hts⟩ hK hP hS (c_X9_in l E σ v 0 9999) (va_cwS 3 hts gX9_clock_X9_in rfl rfl rfl (by decide +kernel) ⟨Nat.le_of_ble_eq_true rfl, Nat.le_of_ble_eq_true rfl⟩) rfl hl.1 rfl (Nat.le_of_ble_eq_true rfl) dX9_clock_9 ⟨Nat.zero_le _, Nat.zero_le _⟩ (fun r10 H locs f10 hP1 hS1 => ?_)
    replace hP := hP1
    replace hS := hS1
    clear hP1 hS1
    refine lv_if_ne (tgt := 31) hx hb dX9_clock_12 (by decide) (fun c11 => ?_) (fun c11 => ?_)
    · have c11 := zz_neT c11
      refine lv_iconst (v := 1) hx hb dX9_clock_31 (by decide) ?_
      refine lv_goto (tgt := 36) hx hb dX9_clock_32 (by decide) ?_
      refine lv_istore_n (lv' := [(3, .int 1), (0, .ref h0), (1, .int what), (2, .int v)]) hx hb dX9_clock_36 rfl hl (by decide) rfl (fun ls hl => ?_)
      exact J37 1 _ _ _ (by first | omega | exact hI | exact hT) hP hS (lv_sub hl [1, 2, 3, 0] rfl)
    · have c11 := zz_eqT c11
      refine lv_iload_n hx hb dX9_clock_15 rfl (lv_at hl 1 rfl) ?_
      refine lv_iconst (v := 1) hx hb dX9_clock_16 (by decide) ?_
      refine lv_icmp_ne (tgt := 35) hx hb dX9_clock_17 (by decide) (fun c12 => ?_) (fun c12 => ?_)
      · have c12 := zz_neT c12
        refine lv_iconst (v := 0) hx hb dX9_clock_35 (by decide) ?_
        refine lv_istore_n (lv' := [(3, .int 0), (0, .ref h0), (1, .int what), (2, .int v)]) hx hb dX9_clock_36 rfl hl (by decide) rfl (fun ls hl => ?_)
        exact J37 0 _ _ _ (by first | omega | exact hI | exact hT) hP hS (lv_sub hl [1, 2, 3, 0] rfl)
      · have c12 := zz_eqT c12
        refine lv_iload_n hx hb dX9_clock_20 rfl (lv_at hl 2 rfl) ?_
        refine lv_bipush (v := 13) hx hb dX9_clock_21 (by decide) ?_
        refine lv_bipush (v := 24) hx hb dX9_clock_23 (by decide) ?_
        refine zz_callSp (As := [.int v, .int 13, .int 24]) (rest := []) ⟨hx, hb, hml, hown, hts⟩ hK hP hS (c_X9_in l E σ v 13 24) (va_cwS 3 hts gX9_clock_X9_in rfl rfl rfl (by decide +kernel) ⟨Nat.le_of_ble_eq_true rfl, Nat.le_of_ble_eq_true rfl⟩) rfl hl.1 rfl (Nat.le_of_ble_eq_true rfl) dX9_clock_25 ⟨Nat.zero_le _, Nat.zero_le _⟩ (fun r13 H locs f13 hP1 hS1 => ?_)
        replace hP := hP1
        replace hS := hS1
        clear hP1 hS1
        refine lv_if_eq (tgt := 35) hx hb dX9_clock_28 (by decide) (fun c14 => ?_) (fun c14 => ?_)
        · have c14 := zz_eqT c14
          refine lv_iconst (v := 0) hx hb dX9_clock_35 (by decide) ?_
          refine lv_istore_n (lv' := [(3, .int 0), (0, .ref h0), (1, .int what), (2, .int v)]) hx hb dX9_clock_36 rfl hl (by decide) rfl (fun ls hl => ?_)
          exact J37 0 _ _ _ (by first | omega | exact hI | exact hT) hP hS (lv_sub hl [1, 2, 3, 0] rfl)
        · have c14 := zz_neT c14
          refine lv_iconst (v := 1) hx hb dX9_clock_31 (by decide) ?_
          refine lv_goto (tgt := 36) hx hb dX9_clock_32 (by decide) ?_
          refine lv_istore_n (lv' := [(3, .int 1), (0, .ref h0), (1, .int what), (2, .int v)]) hx hb dX9_clock_36 rfl hl (by decide) rfl (fun ls hl => ?_)
          exact J37 1 _ _ _ (by first | omega | exact hI | exact hT) hP hS (lv_sub hl [1, 2, 3, 0] rfl)
theorem gX9_goes_X9_about : GoodIn wzX9_goes (wsV RX9 76 RX9 yX9_about wzX9_about) := wz_co bm_381 (wz_co bm_382 (wz_co bm_383 (wz_co bm_5 (wz_in bm_384))))
theorem gX9_goes_X9_fineOf : GoodIn wzX9_goes (wsV RX9 111 RX9 yX9_fineOf wzX9_fineOf) := wz_co bm_404 (wz_co bm_405 (wz_co bm_406 (wz_co bm_5 (wz_in bm_407))))
theorem gX9_goes_X9_held : GoodIn wzX9_goes (va_wsS RX9 175 yX9_held wzX9_held) := wz_co bm_263 (wz_co bm_264 (wz_co bm_5 (wz_in bm_265)))
theorem dS26_2 (x0 : Nat) : (x0 + 1) = x0 + 9 ∨ (x0 + 1) = x0 + 10 ∨ ((x0 + 1) = x0 + 1 ∧ ((0) = 0 ∨ (61 ≤ (0) ∧ (0) < 73 ∧ (0) % 2 = 0))) := by omega
theorem dS26_3 (x0 : Nat) : ∀ a k : Nat, (a = (x0) + 9 ∨ a = (x0) + 10) → (a = x0 + 9 ∨ a = x0 + 10 ∨ (a = x0 + 1 ∧ (k = 0 ∨ (61 ≤ k ∧ k < 73 ∧ k % 2 = 0)))) := by intro a k h; omega
theorem dS26_4 (x0 : Nat) : ¬ ((x0 + 1) = (x0) + 9 ∨ (x0 + 1) = (x0) + 10) := by omega
set_option maxHeartbeats 4000000 in
set_option maxRecDepth 100000 in
theorem c_X9_goes (l : Launch) (E : zz_E) (σ : zz_S) (h0 : Nat) (g0 : zz_M E h0) (hI : zz_IW σ (h0 + 1)) (K : zy_W) (hW : zy_YW σ (h0 + 1) K) (hFB : zy_FB (zz_PM 1 σ (h0 + 1))) : Met l yX9_goes wzX9_goes ({ frames := 9, cells := 0, slots := 0, locals := 213 }) (va_Pc [.ref h0] (zz_B E σ)) (va_Qv (fun σ1 => zz_ch (fun a k => a = h0 + 9 ∨ a = h0 + 10 ∨ (a = h0 + 1 ∧ (k = 0 ∨ (61 ≤ k ∧ k < 73 ∧ k % 2 = 0)))) σ σ1 ∧ ((σ1 (h0 + 1) 0).toInt = (σ (h0 + 1) 0).toInt + 1 ∧ zz_PM 1 σ1 (h0 + 1) = zy_ag K (σ (h0 + 1) 0).toInt (σ (h0 + 1) 3).toInt (zz_PM 0 σ (h0 + 1)) (zz_PM 1 σ (h0 + 1)))) (zz_B E) (zz_A E)) 0 0 (zz_A E) := by
  refine zz_met (cc := cX9_goes) (maxL := 3) (ret := none) (by decide) rfl (Nat.le_of_ble_eq_true rfl) ?_
  intro p e s m args below meth c ls hx hb hr hts hown hlocks hml hK hP hS hl
  have hl : lv_has ls 3 [(0, .ref h0)] := hl
  have hown : s.vm.findClass RX9 = some m.cls := hown
  have hi9 : ∀ w ∈ wsX90, w ∈ wzX9_goes := fun w h => List.mem_cons_of_mem _ (hbw9 w h)
  have k_0 : (0 : Int32).toInt = 0 := by decide +kernel
  have k_1 : (1 : Int32).toInt = 1 := by decide +kernel
  have k_2 : (2 : Int32).toInt = 2 := by decide +kernel
  have k_3 : (3 : Int32).toInt = 3 := by decide +kernel
  have k_61 : (61 : Int32).toInt = 61 := by decide +kernel
  have k_9999 : (9999 : Int32).toInt = 9999 := by decide +kernel
  replace t0 : σ (h0 + 1) 2 = σ (h0 + 1) 2 := rfl
  replace t1 : σ (h0 + 1) 3 = σ (h0 + 1) 3 := rfl
  replace t2 : σ (h0 + 1) 0 = σ (h0 + 1) 0 := rfl
  replace t3 : σ (h0 + 1) 4 = σ (h0 + 1) 4 := rfl
  replace t4 : σ (h0 + 1) 5 = σ (h0 + 1) 5 := rfl
  replace t5 : σ (h0 + 1) 6 = σ (h0 + 1) 6 := rfl
  replace t6 : σ (h0 + 1) 1 = σ (h0 + 1) 1 := rfl
  have hC : zz_ch (fun a k => a = h0 + 9 ∨ a = h0 + 10 ∨ (a = h0 + 1 ∧ (k = 0 ∨ (61 ≤ k ∧ k < 73 ∧ k % 2 = 0)))) σ σ := zz_ch.rf σ
  obtain ⟨hh, hsl, hd, hp, htc, hwc, hM, hT⟩ := id hI
  refine lv_aload_n hx hb dX9_goes_0 rfl (lv_at hl 0 rfl) ?_
  refine zz_getr hx hb hts hi9 hown hK hP (g0.1) rfl 0 (by decide) (hts (.fieldLink RX9 9 "NoonLawModel" "row" "[I") (List.mem_cons_of_mem _ bm_93)) rfl rfl dX9_goes_1 ?_
  refine lv_iconst (v := 0) hx hb dX9_goes_4 (by decide) ?_
  refine zz_ialc hx hb hK hP (g0.2.1) 0 (by decide) (by decide) t2 dX9_goes_5 ?_
  refine lv_istore_n (lv' := [(1, .int (σ (h0 + 1) 0)), (0, .ref h0)]) hx hb dX9_goes_6 rfl hl (by decide) rfl (fun ls hl => ?_)
  refine lv_iconst (v := 0) hx hb dX9_goes_7 (by decide) ?_
  refine lv_istore_n (lv' := [(2, .int 0), (1, .int (σ (h0 + 1) 0)), (0, .ref h0)]) hx hb dX9_goes_8 rfl hl (by decide) rfl (fun ls hl => ?_)
  have J9 : ∀ (n : Nat) (ii : Int32) (σa : zz_S) (H : Heap) (locs : List Loc) (ls : Array Slot), ((6 - ii.toInt).toNat) < n → (zz_ch (fun a k => a = h0 + 9 ∨ a = h0 + 10 ∨ (a = h0 + 1 ∧ (k = 0 ∨ (61 ≤ k ∧ k < 73 ∧ k % 2 = 0)))) σ σa) → (0 ≤ ii.toInt ∧ ii.toInt ≤ (σ (h0 + 1) 3).toInt) → (zz_PM 1 σa (h0 + 1) = zy_ag K (σ (h0 + 1) 0).toInt ii.toInt (zz_PM 0 σ (h0 + 1)) (zz_PM 1 σ (h0 + 1))) → (σa (h0 + 1) 2 = σ (h0 + 1) 2) → (σa (h0 + 1) 3 = σ (h0 + 1) 3) → (σa (h0 + 1) 0 = σ (h0 + 1) 0) → (σa (h0 + 1) 4 = σ (h0 + 1) 4) → (σa (h0 + 1) 5 = σ (h0 + 1) 5) → (σa (h0 + 1) 6 = σ (h0 + 1) 6) → (σa (h0 + 1) 1 = σ (h0 + 1) 1) → zz_P E σa H → va_S (zz_A E) s.heap H locs → lv_has ls 3 [(2, .int ii), (1, .int (σ (h0 + 1) 0)), (0, .ref h0)] → W p l e (headSpec wzX9_goes ({ frames := 9, cells := 0, slots := 0, locals := 213 })).room s m args below meth c H locs 0 0 (MQ below (va_Qv (fun σ1 => zz_ch (fun a k => a = h0 + 9 ∨ a = h0 + 10 ∨ (a = h0 + 1 ∧ (k = 0 ∨ (61 ≤ k ∧ k < 73 ∧ k % 2 = 0)))) σ σ1 ∧ ((σ1 (h0 + 1) 0).toInt = (σ (h0 + 1) 0).toInt + 1 ∧ zz_PM 1 σ1 (h0 + 1) = zy_ag K (σ (h0 + 1) 0).toInt (σ (h0 + 1) 3).toInt (zz_PM 0 σ (h0 + 1)) (zz_PM 1 σ (h0 + 1)))) (zz_B E) (zz_A E)) args s 0 0 (zz_A E)) (F0 m 9 ls []) := by
    intro n
    induction n with
    | zero => intro ii σa H locs ls hm; exact absurd hm (Nat.not_lt_zero _)
    | succ n ih9 =>
      intro ii σa H locs ls hm hC f9_0 f9_1 t0 t1 t2 t3 t4 t5 t6 hP hS hl
      refine lv_iload_n hx hb dX9_goes_9 rfl (lv_at hl 0 rfl) ?_
      refine lv_aload_n hx hb dX9_goes_10 rfl (lv_at hl 2 rfl) ?_
      refine zz_getr hx hb hts hi9 hown hK hP (g0.1) rfl 0 (by decide) (hts (.fieldLink RX9 9 "NoonLawModel" "row" "[I") (List.mem_cons_of_mem _ bm_93)) rfl rfl dX9_goes_11 ?_
      refine lv_iconst (v := 3) hx hb dX9_goes_14 (by decide) ?_
      refine zz_ialc hx hb hK hP (g0.2.1) 3 (by decide) (by decide) t1 dX9_goes_15 ?_
      refine lv_icmp_ge (tgt := 58) hx hb dX9_goes_16 (by decide) (fun c3 => ?_) (fun c3 => ?_)
      · have c3 := zz_leT c3
        refine lv_aload_n hx hb dX9_goes_58 rfl (lv_at hl 2 rfl) ?_
        refine zz_getr hx hb hts hi9 hown hK hP (g0.1) rfl 0 (by decide) (hts (.fieldLink RX9 9 "NoonLawModel" "row" "[I") (List.mem_cons_of_mem _ bm_93)) rfl rfl dX9_goes_59 ?_
        refine lv_iconst (v := 0) hx hb dX9_goes_62 (by decide) ?_
        refine lv_dup2_11 hx hb dX9_goes_63 rfl rfl ?_
        refine zz_ialc hx hb hK hP (g0.2.1) 0 (by decide) (by decide) t2 dX9_goes_64 ?_
        refine lv_iconst (v := 1) hx hb dX9_goes_65 (by decide) ?_
        refine lv_iadd hx hb dX9_goes_66 ?_
        refine lv_topi (fun n5 e5 => ?_)
        have f5 : n5.toInt = (σ (h0 + 1) 0).toInt + (1 : Int32).toInt := zz_addT e5 (by omega) (by omega)
        refine zz_iasc hx hb hK hP hS (g0.2.1) 0 (by decide) (by decide) dX9_goes_67 (fun σ6 H locs w6 hP1 hS1 => ?_)
        replace hP := hP1
        replace hS := hS1
        clear hP1 hS1
        replace hC := hC.u w6 (dS26_2 h0)
        replace t0 : σ6 (h0 + 1) 2 = σ (h0 + 1) 2 := (zz_w (b := (h0 + 1)) (j := 2) w6 (fun q9 => absurd q9.2 (by decide))).trans t0
        replace t1 : σ6 (h0 + 1) 3 = σ (h0 + 1) 3 := (zz_w (b := (h0 + 1)) (j := 3) w6 (fun q9 => absurd q9.2 (by decide))).trans t1
        replace t2 : σ6 (h0 + 1) 0 = n5 := zz_w1 w6
        replace t3 : σ6 (h0 + 1) 4 = σ (h0 + 1) 4 := (zz_w (b := (h0 + 1)) (j := 4) w6 (fun q9 => absurd q9.2 (by decide))).trans t3
        replace t4 : σ6 (h0 + 1) 5 = σ (h0 + 1) 5 := (zz_w (b := (h0 + 1)) (j := 5) w6 (fun q9 => absurd q9.2 (by decide))).trans t4
        replace t5 : σ6 (h0 + 1) 6 = σ (h0 + 1) 6 := (zz_w (b := (h0 + 1)) (j := 6) w6 (fun q9 => absurd q9.2 (by decide))).trans t5
        replace t6 : σ6 (h0 + 1) 1 = σ (h0 + 1) 1 := (zz_w (b := (h0 + 1)) (j := 1) w6 (fun q9 => absurd q9.2 (by decide))).trans t6
        exact zz_vret hx hb hr hlocks hK hP hS dX9_goes_68 (by exact ⟨hC, by rw [t2]; omega, by rw [zz_PMo (f := 1) (a := h0 + 1) w6 (fun j hj q => by omega), f9_1, show ii.toInt = (σ (h0 + 1) 3).toInt from by omega]⟩)
      · have c3 := zz_nleT c3
        refine lv_aload_n hx hb dX9_goes_19 rfl (lv_at hl 2 rfl) ?_
        refine zz_getr hx hb hts hi9 hown hK hP (g0.1) rfl 0 (by decide) (hts (.fieldLink RX9 9 "NoonLawModel" "row" "[I") (List.mem_cons_of_mem _ bm_93)) rfl rfl dX9_goes_20 ?_
        refine lv_bipush (v := 61) hx hb dX9_goes_23 (by decide) ?_
        refine lv_iconst (v := 2) hx hb dX9_goes_25 (by decide) ?_
        refine lv_iload_n hx hb dX9_goes_26 rfl (lv_at hl 0 rfl) ?_
        refine lv_imul hx hb dX9_goes_27 ?_
        refine lv_topi (fun n7 e7 => ?_)
        have f7 : n7.toInt = 2 * (ii).toInt := zz_mulL 2 e7 (by decide) (by omega) (by omega)
        refine lv_iadd hx hb dX9_goes_28 ?_
        refine lv_topi (fun n8 e8 => ?_)
        have f8 : n8.toInt = (61 : Int32).toInt + (n7).toInt := zz_addT e8 (by omega) (by omega)
        refine lv_iconst (v := 1) hx hb dX9_goes_29 (by decide) ?_
        refine lv_iadd hx hb dX9_goes_30 ?_
        refine lv_topi (fun n9 e9 => ?_)
        have f9 : n9.toInt = (n8).toInt + (1 : Int32).toInt := zz_addT e9 (by omega) (by omega)
        refine lv_aload_n hx hb dX9_goes_31 rfl (lv_at hl 2 rfl) ?_
        refine lv_iload_n hx hb dX9_goes_32 rfl (lv_at hl 0 rfl) ?_
        refine lv_iconst (v := 1) hx hb dX9_goes_33 (by decide) ?_
        refine zz_callVp (As := [.int ii, .int 1]) (rest := [.int n9, .ref (h0 + 1)]) ⟨hx, hb, hml, hown, hts⟩ hK hP hS (c_X9_about l E σa h0 ii 1 g0 (by omega)) (cwV 2 hts gX9_goes_X9_about rfl rfl rfl (by decide +kernel) ⟨Nat.le_of_ble_eq_true rfl, Nat.le_of_ble_eq_true rfl⟩) (g0.1) rfl rfl hl.1 rfl (Nat.le_of_ble_eq_true rfl) dX9_goes_34 ⟨Nat.zero_le _, Nat.zero_le _⟩ (fun r10 H locs f10 hP1 hS1 => ?_)
        replace hP := hP1
        replace hS := hS1
        clear hP1 hS1
        try simp only [t0, t1, t2, t3, t4, t5, t6] at f10
        have hfi : r10.toInt = zz_PM 1 σ (h0 + 1) ii.toInt.toNat := by
          have h9 : zz_PM 1 σa (h0 + 1) ii.toInt.toNat = zz_PM 1 σ (h0 + 1) ii.toInt.toNat := by rw [f9_1]; exact zy_ag_at (by omega)
          rw [← h9, f10, zz_PM.at (by omega)]; exact congrArg (fun q => (σa (h0 + 1) q).toInt) (by omega)
        have hwo : σa (h0 + 1) (61 + 2 * ii.toInt.toNat) = Int32.ofInt (zz_PM 0 σ (h0 + 1) ii.toInt.toNat) := zz_ofI (by rw [zz_PM.at (by omega)]; exact congrArg Int32.toInt (hC _ _ (by first | (dsimp only; omega) | omega)))
        have hfb := hFB ii.toInt.toNat
        refine lv_aload_n hx hb dX9_goes_37 rfl (lv_at hl 2 rfl) ?_
        refine lv_iload_n hx hb dX9_goes_38 rfl (lv_at hl 0 rfl) ?_
        refine lv_iload_n hx hb dX9_goes_39 rfl (lv_at hl 1 rfl) ?_
        refine zz_callVi (As := [.int ii, .int (σ (h0 + 1) 0)]) (rest := [.int r10, .int n9, .ref (h0 + 1)]) ⟨hx, hb, hml, hown, hts⟩ hK hP hS (c_X9_fineOf l E σa h0 ii (σ (h0 + 1) 0) g0 (by omega) (by first | omega | exact hI | exact hT) (by exact hI.scal (fun k hk => hC _ _ (by first | (dsimp only; omega) | omega)) (fun j hj => by rw [hC _ _ (by first | (dsimp only; omega) | omega)]; exact hM j hj) (by rw [t2]; omega) (by rw [t3]; omega) (by rw [t0]; omega) (by rw [t1]; omega) (by rw [t4]; omega) (by rw [t5]; omega)) K (by exact hW.keep (fun k q => hC _ _ (by first | (dsimp only; omega) | omega)))) (cwV 2 hts gX9_goes_X9_fineOf rfl rfl rfl (by decide +kernel) ⟨Nat.le_of_ble_eq_true rfl, Nat.le_of_ble_eq_true rfl⟩) (g0.1) rfl rfl hl.1 rfl (Nat.le_of_ble_eq_true rfl) dX9_goes_40 ⟨Nat.zero_le _, Nat.zero_le _⟩ (fun r11 σ11 H locs q11 hP1 hS1 => ?_)
        replace hP := hP1
        replace hS := hS1
        clear hP1 hS1
        try dsimp only at q11
        obtain ⟨w11, f11⟩ := q11
        replace hC := hC.tr (w11.mono (dS26_3 h0))
        try simp only [t0, t1, t2, t3, t4, t5, t6] at f11
        replace t0 : σ11 (h0 + 1) 2 = σ (h0 + 1) 2 := (w11 (h0 + 1) 2 (dS26_4 h0)).trans t0
        replace t1 : σ11 (h0 + 1) 3 = σ (h0 + 1) 3 := (w11 (h0 + 1) 3 (dS26_4 h0)).trans t1
        replace t2 : σ11 (h0 + 1) 0 = σ (h0 + 1) 0 := (w11 (h0 + 1) 0 (dS26_4 h0)).trans t2
        replace t3 : σ11 (h0 + 1) 4 = σ (h0 + 1) 4 := (w11 (h0 + 1) 4 (dS26_4 h0)).trans t3
        replace t4 : σ11 (h0 + 1) 5 = σ (h0 + 1) 5 := (w11 (h0 + 1) 5 (dS26_4 h0)).trans t4
        replace t5 : σ11 (h0 + 1) 6 = σ (h0 + 1) 6 := (w11 (h0 + 1) 6 (dS26_4 h0)).trans t5
        replace t6 : σ11 (h0 + 1) 1 = σ (h0 + 1) 1 := (w11 (h0 + 1) 1 (dS26_4 h0)).trans t6
        have hfn : r11.toInt = zy_fn K (σ (h0 + 1) 0).toInt (Int32.ofInt (zz_PM 0 σ (h0 + 1) ii.toInt.toNat)) (Int32.ofInt ii.toInt) := by rw [f11, hwo, Int32.ofInt_toInt]
        have hfr := zy_fn_rng K (σ (h0 + 1) 0).toInt (Int32.ofInt (zz_PM 0 σ (h0 + 1) ii.toInt.toNat)) (Int32.ofInt ii.toInt)
        refine lv_iadd hx hb dX9_goes_43 ?_
        refine lv_topi (fun n12 e12 => ?_)
        have f12 : n12.toInt = (r10).toInt + (r11).toInt := zz_addT e12 (by omega) (by omega)
        refine lv_iconst (v := 0) hx hb dX9_goes_44 (by decide) ?_
        refine lv_sipush (v := 9999) hx hb dX9_goes_45 (by decide) ?_
        refine zz_callSp (As := [.int n12, .int 0, .int 9999]) (rest := [.int n9, .ref (h0 + 1)]) ⟨hx, hb, hml, hown, hts⟩ hK hP hS (c_X9_held l E σ11 n12 0 9999 (by omega)) (va_cwS 3 hts gX9_goes_X9_held rfl rfl rfl (by decide +kernel) ⟨Nat.le_of_ble_eq_true rfl, Nat.le_of_ble_eq_true rfl⟩) rfl hl.1 rfl (Nat.le_of_ble_eq_true rfl) dX9_goes_48 ⟨Nat.zero_le _, Nat.zero_le _⟩ (fun r13 H locs f13 hP1 hS1 => ?_)
        replace hP := hP1
        replace hS := hS1
        clear hP1 hS1
        try simp only [t0, t1, t2, t3, t4, t5, t6] at f13
        have hcl := f13
        rw [k_0, k_9999] at hcl
        refine zz_iast hx hb hK hP hS (g0.2.1) (by omega) (by omega) dX9_goes_51 (fun j14 σ14 H locs q14 r14 w14 hP1 hS1 => ?_)
        replace hP := hP1
        replace hS := hS1
        clear hP1 hS1
        replace hC := hC.u w14 (by first | (dsimp only; omega) | omega | (dsimp only; done))
        replace t0 : σ14 (h0 + 1) 2 = σ (h0 + 1) 2 := (zz_w (b := (h0 + 1)) (j := 2) w14 (by omega)).trans t0
        replace t1 : σ14 (h0 + 1) 3 = σ (h0 + 1) 3 := (zz_w (b := (h0 + 1)) (j := 3) w14 (by omega)).trans t1
        replace t2 : σ14 (h0 + 1) 0 = σ (h0 + 1) 0 := (zz_w (b := (h0 + 1)) (j := 0) w14 (by omega)).trans t2
        replace t3 : σ14 (h0 + 1) 4 = σ (h0 + 1) 4 := (zz_w (b := (h0 + 1)) (j := 4) w14 (by omega)).trans t3
        replace t4 : σ14 (h0 + 1) 5 = σ (h0 + 1) 5 := (zz_w (b := (h0 + 1)) (j := 5) w14 (by omega)).trans t4
        replace t5 : σ14 (h0 + 1) 6 = σ (h0 + 1) 6 := (zz_w (b := (h0 + 1)) (j := 6) w14 (by omega)).trans t5
        replace t6 : σ14 (h0 + 1) 1 = σ (h0 + 1) 1 := (zz_w (b := (h0 + 1)) (j := 1) w14 (by omega)).trans t6
        obtain ⟨n15, e15⟩ : ∃ y : Int32, y = ii + 1 := ⟨_, rfl⟩
        have f15 : n15.toInt = (ii).toInt + (1) := by have h9 := zz_addT e15 (by omega) (by omega); omega
        refine lv_iinc (v := n15) (lv' := [(2, .int n15), (1, .int (σ (h0 + 1) 0)), (0, .ref h0)]) hx hb dX9_goes_52 hl (k := 0) rfl (by rw [e15]; rfl) (by decide) rfl (fun ls hl => ?_)
        refine lv_goto (tgt := 9) hx hb dX9_goes_55 (by decide) ?_
        exact ih9 n15 σ14 _ _ _ (by omega) hC (by first | omega | exact hI | exact hT) (by rw [zz_PMw (d := ii.toInt) ii.toInt.toNat 1 w14 (by omega) (by omega) (by omega) (by decide), zz_PMk (f := 1) (a := h0 + 1) w11 (by intro i hi; first | (dsimp only; omega) | omega), f9_1]; exact zy_ag_s (by omega) rfl (by omega) (by rw [zy_m9_cl (by omega) hcl]; exact congrArg zy_m9 (by omega))) t0 t1 t2 t3 t4 t5 t6 hP hS (lv_sub hl [0, 1, 2] rfl)
  exact J9 _ 0 σ _ _ _ (Nat.lt_succ_self _) hC (by first | omega | exact hI | exact hT) (by exact zy_ag_0 (by omega)) t0 t1 t2 t3 t4 t5 t6 hP hS (lv_sub hl [0, 1, 2] rfl)
theorem gX9_hours_X9_in : GoodIn wzX9_hours (va_wsS RX9 47 yX9_in wzX9_in) := wz_co bm_143 (wz_co bm_144 (wz_co bm_5 (wz_in bm_145)))
theorem gX9_hours_X9_error : GoodIn wzX9_hours (wsV RX9 94 RX9 yX9_error wzX9_error) := wz_co bm_146 (wz_co bm_147 (wz_co bm_148 (wz_co bm_5 (wz_in bm_149))))
theorem gX9_hours_X9_goes : GoodIn wzX9_hours (wsV RX9 179 RX9 yX9_goes wzX9_goes) := wz_co bm_593 (wz_co bm_594 (wz_co bm_595 (wz_co bm_5 (wz_in bm_596))))
theorem dS26_5 (x0 : Nat) : ∀ a k : Nat, (a = (x0) + 9 ∨ a = (x0) + 10 ∨ (a = (x0) + 1 ∧ (k = 0 ∨ (61 ≤ k ∧ k < 73 ∧ k % 2 = 0)))) → ((a = x0 + 3 ∨ (x0 + 7 ≤ a ∧ a ≤ x0 + 11)) ∨ (a = x0 + 1 ∧ (k = 0 ∨ (61 ≤ k ∧ k < 73 ∧ k % 2 = 0)))) := by intro a k h; omega
theorem dS26_6 (x0 : Nat) : ¬ ((x0 + 1) = (x0) + 9 ∨ (x0 + 1) = (x0) + 10 ∨ ((x0 + 1) = (x0) + 1 ∧ ((2) = 0 ∨ (61 ≤ (2) ∧ (2) < 73 ∧ (2) % 2 = 0)))) := by omega
theorem dS26_7 (x0 : Nat) : ¬ ((x0 + 1) = (x0) + 9 ∨ (x0 + 1) = (x0) + 10 ∨ ((x0 + 1) = (x0) + 1 ∧ ((3) = 0 ∨ (61 ≤ (3) ∧ (3) < 73 ∧ (3) % 2 = 0)))) := by omega
theorem dS26_8 (x0 : Nat) : ¬ ((x0 + 1) = (x0) + 9 ∨ (x0 + 1) = (x0) + 10 ∨ ((x0 + 1) = (x0) + 1 ∧ ((4) = 0 ∨ (61 ≤ (4) ∧ (4) < 73 ∧ (4) % 2 = 0)))) := by omega
theorem dS26_9 (x0 : Nat) : ¬ ((x0 + 1) = (x0) + 9 ∨ (x0 + 1) = (x0) + 10 ∨ ((x0 + 1) = (x0) + 1 ∧ ((5) = 0 ∨ (61 ≤ (5) ∧ (5) < 73 ∧ (5) % 2 = 0)))) := by omega
theorem dS26_10 (x0 : Nat) : ¬ ((x0 + 1) = (x0) + 9 ∨ (x0 + 1) = (x0) + 10 ∨ ((x0 + 1) = (x0) + 1 ∧ ((6) = 0 ∨ (61 ≤ (6) ∧ (6) < 73 ∧ (6) % 2 = 0)))) := by omega
theorem dS26_11 (x0 : Nat) : ¬ ((x0 + 1) = (x0) + 9 ∨ (x0 + 1) = (x0) + 10 ∨ ((x0 + 1) = (x0) + 1 ∧ ((1) = 0 ∨ (61 ≤ (1) ∧ (1) < 73 ∧ (1) % 2 = 0)))) := by omega
theorem dS26_12 (x0 : Nat) : ∀ a k : Nat, (a = (x0) + 3) → ((a = x0 + 3 ∨ (x0 + 7 ≤ a ∧ a ≤ x0 + 11)) ∨ (a = x0 + 1 ∧ (k = 0 ∨ (61 ≤ k ∧ k < 73 ∧ k % 2 = 0)))) := by intro a k h; omega
theorem dS26_13 (x0 : Nat) : ¬ ((x0 + 1) = (x0) + 3) := by omega
set_option maxHeartbeats 4000000 in
set_option maxRecDepth 100000 in
theorem c_X9_hours (l : Launch) (E : zz_E) (σ : zz_S) (h0 : Nat) (nn : Int32) (g0 : zz_M E h0) (hJ : zz_IM σ h0) (K : zy_W) (hW : zy_YW σ (h0 + 1) K) (hFB : zy_FB (zz_PM 1 σ (h0 + 1))) : Met l yX9_hours wzX9_hours ({ frames := 10, cells := 0, slots := 0, locals := 235 }) (va_Pc [.ref h0, .int nn] (zz_B E σ)) (va_Qi (fun r σ1 => zz_ch (fun a k => (a = h0 + 3 ∨ (h0 + 7 ≤ a ∧ a ≤ h0 + 11)) ∨ (a = h0 + 1 ∧ (k = 0 ∨ (61 ≤ k ∧ k < 73 ∧ k % 2 = 0)))) σ σ1 ∧ (zz_IM σ1 h0 ∧ ((((nn.toInt < 1 ∨ 240 < nn.toInt) ∧ r.toInt = -1000000001 ∧ (σ1 (h0 + 1) 0).toInt = (σ (h0 + 1) 0).toInt) ∨ (1 ≤ nn.toInt ∧ nn.toInt ≤ 240 ∧ 9999 < (σ (h0 + 1) 0).toInt + nn.toInt ∧ r.toInt = -1000000003 ∧ (σ1 (h0 + 1) 0).toInt = (σ (h0 + 1) 0).toInt) ∨ (1 ≤ nn.toInt ∧ nn.toInt ≤ 240 ∧ (σ (h0 + 1) 0).toInt + nn.toInt ≤ 9999 ∧ r.toInt = (σ (h0 + 1) 0).toInt + nn.toInt ∧ (σ1 (h0 + 1) 0).toInt = (σ (h0 + 1) 0).toInt + nn.toInt)) ∧ (r.toInt < 0 → zz_PM 1 σ1 (h0 + 1) = zz_PM 1 σ (h0 + 1)) ∧ (0 ≤ r.toInt → zz_PM 1 σ1 (h0 + 1) = zy_hs K (σ (h0 + 1) 3).toInt (zz_PM 0 σ (h0 + 1)) nn.toInt.toNat (σ (h0 + 1) 0).toInt (zz_PM 1 σ (h0 + 1)))))) (zz_B E) (zz_A E)) 0 0 (zz_A E) := by
  refine zz_met (cc := cX9_hours) (maxL := 3) (ret := (some .int)) (by decide) rfl (Nat.le_of_ble_eq_true rfl) ?_
  intro p e s m args below meth c ls hx hb hr hts hown hlocks hml hK hP hS hl
  have hl : lv_has ls 3 [(0, .ref h0), (1, .int nn)] := hl
  have hown : s.vm.findClass RX9 = some m.cls := hown
  have hi9 : ∀ w ∈ wsX90, w ∈ wzX9_hours := fun w h => List.mem_cons_of_mem _ (hbw9 w h)
  have k_m1000000003 : ((-1000000003) : Int32).toInt = -1000000003 := by decide +kernel
  have k_m1000000001 : ((-1000000001) : Int32).toInt = -1000000001 := by decide +kernel
  have k_0 : (0 : Int32).toInt = 0 := by decide +kernel
  have k_1 : (1 : Int32).toInt = 1 := by decide +kernel
  have k_240 : (240 : Int32).toInt = 240 := by decide +kernel
  have k_9999 : (9999 : Int32).toInt = 9999 := by decide +kernel
  replace t0 : σ (h0 + 1) 2 = σ (h0 + 1) 2 := rfl
  replace t1 : σ (h0 + 1) 3 = σ (h0 + 1) 3 := rfl
  replace t2 : σ (h0 + 1) 0 = σ (h0 + 1) 0 := rfl
  replace t3 : σ (h0 + 1) 4 = σ (h0 + 1) 4 := rfl
  replace t4 : σ (h0 + 1) 5 = σ (h0 + 1) 5 := rfl
  replace t5 : σ (h0 + 1) 6 = σ (h0 + 1) 6 := rfl
  replace t6 : σ (h0 + 1) 1 = σ (h0 + 1) 1 := rfl
  have hC : zz_ch (fun a k => (a = h0 + 3 ∨ (h0 + 7 ≤ a ∧ a ≤ h0 + 11)) ∨ (a = h0 + 1 ∧ (k = 0 ∨ (61 ≤ k ∧ k < 73 ∧ k % 2 = 0)))) σ σ := zz_ch.rf σ
  have hI := hJ.1
  obtain ⟨hh, hsl, hd, hp, htc, hwc, hM, hT⟩ := id hI
  have hz5 := hJ.2.2.1
  have htr := hJ.2.2.2
  have hct := hW.2.1
  obtain ⟨FX, hFX⟩ : ∃ X : Nat → Int, zy_hs K (σ (h0 + 1) 3).toInt (zz_PM 0 σ (h0 + 1)) nn.toInt.toNat (σ (h0 + 1) 0).toInt (zz_PM 1 σ (h0 + 1)) = X := ⟨_, rfl⟩
  refine lv_iload_n hx hb dX9_hours_0 rfl (lv_at hl 1 rfl) ?_
  refine lv_iconst (v := 1) hx hb dX9_hours_1 (by decide) ?_
  refine lv_sipush (v := 240) hx hb dX9_hours_2 (by decide) ?_
  refine zz_callSp (As := [.int nn, .int 1, .int 240]) (rest := []) ⟨hx, hb, hml, hown, hts⟩ hK hP hS (c_X9_in l E σ nn 1 240) (va_cwS 3 hts gX9_hours_X9_in rfl rfl rfl (by decide +kernel) ⟨Nat.le_of_ble_eq_true rfl, Nat.le_of_ble_eq_true rfl⟩) rfl hl.1 rfl (Nat.le_of_ble_eq_true rfl) dX9_hours_5 ⟨Nat.zero_le _, Nat.zero_le _⟩ (fun r1 H locs f1 hP1 hS1 => ?_)
  replace hP := hP1
  replace hS := hS1
  clear hP1 hS1
  refine lv_if_ne (tgt := 18) hx hb dX9_hours_8 (by decide) (fun c2 => ?_) (fun c2 => ?_)
  · have c2 := zz_neT c2
    refine lv_aload_n hx hb dX9_hours_18 rfl (lv_at hl 0 rfl) ?_
    refine zz_getr hx hb hts hi9 hown hK hP (g0.1) rfl 0 (by decide) (hts (.fieldLink RX9 9 "NoonLawModel" "row" "[I") (List.mem_cons_of_mem _ bm_93)) rfl rfl dX9_hours_19 ?_
    refine lv_iconst (v := 0) hx hb dX9_hours_22 (by decide) ?_
    refine zz_ialc hx hb hK hP (g0.2.1) 0 (by decide) (by decide) t2 dX9_hours_23 ?_
    refine lv_iload_n hx hb dX9_hours_24 rfl (lv_at hl 1 rfl) ?_
    refine lv_iadd hx hb dX9_hours_25 ?_
    refine lv_topi (fun n4 e4 => ?_)
    have f4 : n4.toInt = (σ (h0 + 1) 0).toInt + (nn).toInt := zz_addT e4 (by omega) (by omega)
    refine lv_sipush (v := 9999) hx hb dX9_hours_26 (by decide) ?_
    refine lv_icmp_le (tgt := 39) hx hb dX9_hours_29 (by decide) (fun c5 => ?_) (fun c5 => ?_)
    · have c5 := zz_leT c5
      refine lv_iconst (v := 0) hx hb dX9_hours_39 (by decide) ?_
      refine lv_istore_n (lv' := [(2, .int 0), (0, .ref h0), (1, .int nn)]) hx hb dX9_hours_40 rfl hl (by decide) rfl (fun ls hl => ?_)
      have J41 : ∀ (n : Nat) (ii : Int32) (hv : Int32) (σa : zz_S) (H : Heap) (locs : List Loc) (ls : Array Slot), ((240 - ii.toInt).toNat) < n → (zz_ch (fun a k => (a = h0 + 3 ∨ (h0 + 7 ≤ a ∧ a ≤ h0 + 11)) ∨ (a = h0 + 1 ∧ (k = 0 ∨ (61 ≤ k ∧ k < 73 ∧ k % 2 = 0)))) σ σa) → (0 ≤ ii.toInt ∧ ii.toInt ≤ nn.toInt) → (hv.toInt = (σ (h0 + 1) 0).toInt + ii.toInt) → (zy_hs K (σ (h0 + 1) 3).toInt (zz_PM 0 σ (h0 + 1)) (nn.toInt.toNat - ii.toInt.toNat) hv.toInt (zz_PM 1 σa (h0 + 1)) = FX) → (zy_FB (zz_PM 1 σa (h0 + 1))) → (σa (h0 + 1) 2 = σ (h0 + 1) 2) → (σa (h0 + 1) 3 = σ (h0 + 1) 3) → (σa (h0 + 1) 0 = hv) → (σa (h0 + 1) 4 = σ (h0 + 1) 4) → (σa (h0 + 1) 5 = σ (h0 + 1) 5) → (σa (h0 + 1) 6 = σ (h0 + 1) 6) → (σa (h0 + 1) 1 = σ (h0 + 1) 1) → zz_P E σa H → va_S (zz_A E) s.heap H locs → lv_has ls 3 [(2, .int ii), (0, .ref h0), (1, .int nn)] → W p l e (headSpec wzX9_hours ({ frames := 10, cells := 0, slots := 0, locals := 235 })).room s m args below meth c H locs 0 0 (MQ below (va_Qi (fun r σ1 => zz_ch (fun a k => (a = h0 + 3 ∨ (h0 + 7 ≤ a ∧ a ≤ h0 + 11)) ∨ (a = h0 + 1 ∧ (k = 0 ∨ (61 ≤ k ∧ k < 73 ∧ k % 2 = 0)))) σ σ1 ∧ (zz_IM σ1 h0 ∧ ((((nn.toInt < 1 ∨ 240 < nn.toInt) ∧ r.toInt = -1000000001 ∧ (σ1 (h0 + 1) 0).toInt = (σ (h0 + 1) 0).toInt) ∨ (1 ≤ nn.toInt ∧ nn.toInt ≤ 240 ∧ 9999 < (σ (h0 + 1) 0).toInt + nn.toInt ∧ r.toInt = -1000000003 ∧ (σ1 (h0 + 1) 0).toInt = (σ (h0 + 1) 0).toInt) ∨ (1 ≤ nn.toInt ∧ nn.toInt ≤ 240 ∧ (σ (h0 + 1) 0).toInt + nn.toInt ≤ 9999 ∧ r.toInt = (σ (h0 + 1) 0).toInt + nn.toInt ∧ (σ1 (h0 + 1) 0).toInt = (σ (h0 + 1) 0).toInt + nn.toInt)) ∧ (r.toInt < 0 → zz_PM 1 σ1 (h0 + 1) = zz_PM 1 σ (h0 + 1)) ∧ (0 ≤ r.toInt → zz_PM 1 σ1 (h0 + 1) = zy_hs K (σ (h0 + 1) 3).toInt (zz_PM 0 σ (h0 + 1)) nn.toInt.toNat (σ (h0 + 1) 0).toInt (zz_PM 1 σ (h0 + 1)))))) (zz_B E) (zz_A E)) args s 0 0 (zz_A E)) (F0 m 41 ls []) := by
        intro n
        induction n with
        | zero => intro ii hv σa H locs ls hm; exact absurd hm (Nat.not_lt_zero _)
        | succ n ih41 =>
          intro ii hv σa H locs ls hm hC f41_0 f41_1 f41_2 f41_3 t0 t1 t2 t3 t4 t5 t6 hP hS hl
          have hV0 := zz_PMk (f := 0) (a := h0 + 1) hC (by intro i hi; first | (dsimp only; omega) | omega)
          refine lv_iload_n hx hb dX9_hours_41 rfl (lv_at hl 0 rfl) ?_
          refine lv_iload_n hx hb dX9_hours_42 rfl (lv_at hl 2 rfl) ?_
          refine lv_icmp_ge (tgt := 56) hx hb dX9_hours_43 (by decide) (fun c6 => ?_) (fun c6 => ?_)
          · have c6 := zz_leT c6
            refine lv_aload_n hx hb dX9_hours_56 rfl (lv_at hl 1 rfl) ?_
            refine zz_getr hx hb hts hi9 hown hK hP (g0.1) rfl 0 (by decide) (hts (.fieldLink RX9 9 "NoonLawModel" "row" "[I") (List.mem_cons_of_mem _ bm_93)) rfl rfl dX9_hours_57 ?_
            refine lv_iconst (v := 0) hx hb dX9_hours_60 (by decide) ?_
            refine zz_ialc hx hb hK hP (g0.2.1) 0 (by decide) (by decide) t2 dX9_hours_61 ?_
            have hz0 : nn.toInt.toNat - ii.toInt.toNat = 0 := (by omega)
            rw [hz0] at f41_2
            exact zz_iret hx hb hr hlocks hK hP hS dX9_hours_62 (by exact ⟨hC, (hJ.row (hI.scal (fun k hk => hC _ _ (by first | (dsimp only; omega) | omega)) (fun j hj => by rw [hC _ _ (by first | (dsimp only; omega) | omega)]; exact hM j hj) (by rw [t2]; omega) (by rw [t3]; omega) (by rw [t0]; omega) (by rw [t1]; omega) (by rw [t4]; omega) (by rw [t5]; omega)) (hC.mono (by intro a k h; first | (dsimp only at h ⊢; omega) | omega))), by rw [t2]; omega, (fun q => absurd q (by rw [← t2]; omega)), (fun _ => (zy_hs_0 f41_2 rfl).trans hFX.symm)⟩)
          · have c6 := zz_nleT c6
            refine lv_aload_n hx hb dX9_hours_46 rfl (lv_at hl 1 rfl) ?_
            refine zz_callVv (As := []) (rest := []) ⟨hx, hb, hml, hown, hts⟩ hK hP hS (c_X9_goes l E σa h0 g0 (by exact hI.scal (fun k hk => hC _ _ (by first | (dsimp only; omega) | omega)) (fun j hj => by rw [hC _ _ (by first | (dsimp only; omega) | omega)]; exact hM j hj) (by rw [t2]; omega) (by rw [t3]; omega) (by rw [t0]; omega) (by rw [t1]; omega) (by rw [t4]; omega) (by rw [t5]; omega)) K (by exact hW.keep (fun k q => hC _ _ (by first | (dsimp only; omega) | omega))) (by exact f41_3)) (cwV 0 hts gX9_hours_X9_goes rfl rfl rfl (by decide +kernel) ⟨Nat.le_of_ble_eq_true rfl, Nat.le_of_ble_eq_true rfl⟩) (g0.1) rfl rfl hl.1 rfl (Nat.le_of_ble_eq_true rfl) dX9_hours_47 ⟨Nat.zero_le _, Nat.zero_le _⟩ (fun σ8 H locs q8 hP1 hS1 => ?_)
            replace hP := hP1
            replace hS := hS1
            clear hP1 hS1
            try dsimp only at q8
            obtain ⟨w8, f8⟩ := q8
            replace hC := hC.tr (w8.mono (dS26_5 h0))
            try simp only [t0, t1, t2, t3, t4, t5, t6] at f8
            replace t0 : σ8 (h0 + 1) 2 = σ (h0 + 1) 2 := (w8 (h0 + 1) 2 (dS26_6 h0)).trans t0
            replace t1 : σ8 (h0 + 1) 3 = σ (h0 + 1) 3 := (w8 (h0 + 1) 3 (dS26_7 h0)).trans t1
            replace t2 : σ8 (h0 + 1) 0 = σ8 (h0 + 1) 0 := rfl
            replace t3 : σ8 (h0 + 1) 4 = σ (h0 + 1) 4 := (w8 (h0 + 1) 4 (dS26_8 h0)).trans t3
            replace t4 : σ8 (h0 + 1) 5 = σ (h0 + 1) 5 := (w8 (h0 + 1) 5 (dS26_9 h0)).trans t4
            replace t5 : σ8 (h0 + 1) 6 = σ (h0 + 1) 6 := (w8 (h0 + 1) 6 (dS26_10 h0)).trans t5
            replace t6 : σ8 (h0 + 1) 1 = σ (h0 + 1) 1 := (w8 (h0 + 1) 1 (dS26_11 h0)).trans t6
            obtain ⟨n9, e9⟩ : ∃ y : Int32, y = ii + 1 := ⟨_, rfl⟩
            have f9 : n9.toInt = (ii).toInt + (1) := by have h9 := zz_addT e9 (by omega) (by omega); omega
            refine lv_iinc (v := n9) (lv' := [(2, .int n9), (0, .ref h0), (1, .int nn)]) hx hb dX9_hours_50 hl (k := 0) rfl (by rw [e9]; rfl) (by decide) rfl (fun ls hl => ?_)
            refine lv_goto (tgt := 41) hx hb dX9_hours_53 (by decide) ?_
            exact ih41 n9 (σ8 (h0 + 1) 0) σ8 _ _ _ (by omega) hC (by first | omega | exact hI | exact hT) (by first | omega | exact hI | exact hT) (by rw [f8.2, hV0]; exact zy_hs_s f41_2 (by omega) (by omega)) (by rw [f8.2]; exact zy_FB.ag f41_3) t0 t1 t2 t3 t4 t5 t6 hP hS (lv_sub hl [0, 1, 2] rfl)
      exact J41 _ 0 (σ (h0 + 1) 0) σ _ _ _ (Nat.lt_succ_self _) hC (by first | omega | exact hI | exact hT) (by first | omega | exact hI | exact hT) (by rw [zz_n0]; exact hFX) (by exact hFB) t0 t1 t2 t3 t4 t5 t6 hP hS (lv_sub hl [0, 1, 2] rfl)
    · have c5 := zz_nleT c5
      refine lv_aload_n hx hb dX9_hours_32 rfl (lv_at hl 0 rfl) ?_
      refine lv_ldc (v := (-1000000003)) hx hb hown (hts (.constant RX9 178 (-1000000003)) (List.mem_cons_of_mem _ bm_592)) dX9_hours_33 ?_
      refine zz_callVi (As := [.int (-1000000003)]) (rest := []) ⟨hx, hb, hml, hown, hts⟩ hK hP hS (c_X9_error l E σ h0 (-1000000003) g0 (by omega)) (cwV 1 hts gX9_hours_X9_error rfl rfl rfl (by decide +kernel) ⟨Nat.le_of_ble_eq_true rfl, Nat.le_of_ble_eq_true rfl⟩) (g0.1) rfl rfl hl.1 rfl (Nat.le_of_ble_eq_true rfl) dX9_hours_35 ⟨Nat.zero_le _, Nat.zero_le _⟩ (fun r10 σ10 H locs q10 hP1 hS1 => ?_)
      replace hP := hP1
      replace hS := hS1
      clear hP1 hS1
      try dsimp only at q10
      obtain ⟨w10, f10⟩ := q10
      replace hC := hC.tr (w10.mono (dS26_12 h0))
      replace t0 : σ10 (h0 + 1) 2 = σ (h0 + 1) 2 := (w10 (h0 + 1) 2 (dS26_13 h0)).trans t0
      replace t1 : σ10 (h0 + 1) 3 = σ (h0 + 1) 3 := (w10 (h0 + 1) 3 (dS26_13 h0)).trans t1
      replace t2 : σ10 (h0 + 1) 0 = σ (h0 + 1) 0 := (w10 (h0 + 1) 0 (dS26_13 h0)).trans t2
      replace t3 : σ10 (h0 + 1) 4 = σ (h0 + 1) 4 := (w10 (h0 + 1) 4 (dS26_13 h0)).trans t3
      replace t4 : σ10 (h0 + 1) 5 = σ (h0 + 1) 5 := (w10 (h0 + 1) 5 (dS26_13 h0)).trans t4
      replace t5 : σ10 (h0 + 1) 6 = σ (h0 + 1) 6 := (w10 (h0 + 1) 6 (dS26_13 h0)).trans t5
      replace t6 : σ10 (h0 + 1) 1 = σ (h0 + 1) 1 := (w10 (h0 + 1) 1 (dS26_13 h0)).trans t6
      exact zz_iret hx hb hr hlocks hK hP hS dX9_hours_38 (by exact ⟨hC, (hJ.soft (w10.mono (by intro a k h; omega))), by rw [t2]; omega, (fun _ => zz_PMk (f := 1) (a := h0 + 1) w10 (by intro i hi; first | (dsimp only; omega) | omega)), (fun q => absurd q (by omega))⟩)
  · have c2 := zz_eqT c2
    refine lv_aload_n hx hb dX9_hours_11 rfl (lv_at hl 0 rfl) ?_
    refine lv_ldc (v := (-1000000001)) hx hb hown (hts (.constant RX9 93 (-1000000001)) (List.mem_cons_of_mem _ bm_138)) dX9_hours_12 ?_
    refine zz_callVi (As := [.int (-1000000001)]) (rest := []) ⟨hx, hb, hml, hown, hts⟩ hK hP hS (c_X9_error l E σ h0 (-1000000001) g0 (by omega)) (cwV 1 hts gX9_hours_X9_error rfl rfl rfl (by decide +kernel) ⟨Nat.le_of_ble_eq_true rfl, Nat.le_of_ble_eq_true rfl⟩) (g0.1) rfl rfl hl.1 rfl (Nat.le_of_ble_eq_true rfl) dX9_hours_14 ⟨Nat.zero_le _, Nat.zero_le _⟩ (fun r11 σ11 H locs q11 hP1 hS1 => ?_)
    replace hP := hP1
    replace hS := hS1
    clear hP1 hS1
    try dsimp only at q11
    obtain ⟨w11, f11⟩ := q11
    replace hC := hC.tr (w11.mono (dS26_12 h0))
    replace t0 : σ11 (h0 + 1) 2 = σ (h0 + 1) 2 := (w11 (h0 + 1) 2 (dS26_13 h0)).trans t0
    replace t1 : σ11 (h0 + 1) 3 = σ (h0 + 1) 3 := (w11 (h0 + 1) 3 (dS26_13 h0)).trans t1
    replace t2 : σ11 (h0 + 1) 0 = σ (h0 + 1) 0 := (w11 (h0 + 1) 0 (dS26_13 h0)).trans t2
    replace t3 : σ11 (h0 + 1) 4 = σ (h0 + 1) 4 := (w11 (h0 + 1) 4 (dS26_13 h0)).trans t3
    replace t4 : σ11 (h0 + 1) 5 = σ (h0 + 1) 5 := (w11 (h0 + 1) 5 (dS26_13 h0)).trans t4
    replace t5 : σ11 (h0 + 1) 6 = σ (h0 + 1) 6 := (w11 (h0 + 1) 6 (dS26_13 h0)).trans t5
    replace t6 : σ11 (h0 + 1) 1 = σ (h0 + 1) 1 := (w11 (h0 + 1) 1 (dS26_13 h0)).trans t6
    exact zz_iret hx hb hr hlocks hK hP hS dX9_hours_17 (by exact ⟨hC, (hJ.soft (w11.mono (by intro a k h; omega))), by rw [t2]; omega, (fun _ => zz_PMk (f := 1) (a := h0 + 1) w11 (by intro i hi; first | (dsimp only; omega) | omega)), (fun q => absurd q (by omega))⟩)
theorem gX9_seed_X9_becomes : GoodIn wzX9_seed (wsV RX9 104 RX9 yX9_becomes wzX9_becomes) := wz_co bm_278 (wz_co bm_279 (wz_co bm_280 (wz_co bm_5 (wz_in bm_281))))
set_option maxHeartbeats 4000000 in
set_option maxRecDepth 100000 in
theorem c_X9_seed (l : Launch) (E : zz_E) (σ : zz_S) (h0 : Nat) (v : Int32) (g0 : zz_M E h0) (hJ : zz_IM σ h0) : Met l yX9_seed wzX9_seed ({ frames := 1, cells := 0, slots := 0, locals := 23 }) (va_Pc [.ref h0, .int v] (zz_B E σ)) (va_Qi (fun r σ1 => zz_ch (fun a k => (a = h0 + 3 ∨ (h0 + 7 ≤ a ∧ a ≤ h0 + 11)) ∨ (a = h0 + 1 ∧ k = 1)) σ σ1 ∧ (zz_IM σ1 h0 ∧ (r = σ (h0 + 1) 1 ∧ σ1 (h0 + 1) 1 = v))) (zz_B E) (zz_A E)) 0 0 (zz_A E) := by
  refine zz_met (cc := cX9_seed) (maxL := 2) (ret := (some .int)) (by decide) rfl (Nat.le_of_ble_eq_true rfl) ?_
  intro p e s m args below meth c ls hx hb hr hts hown hlocks hml hK hP hS hl
  have hl : lv_has ls 2 [(0, .ref h0), (1, .int v)] := hl
  have hown : s.vm.findClass RX9 = some m.cls := hown
  have k_1 : (1 : Int32).toInt = 1 := by decide +kernel
  replace t0 : σ (h0 + 1) 2 = σ (h0 + 1) 2 := rfl
  replace t1 : σ (h0 + 1) 3 = σ (h0 + 1) 3 := rfl
  replace t2 : σ (h0 + 1) 0 = σ (h0 + 1) 0 := rfl
  replace t3 : σ (h0 + 1) 4 = σ (h0 + 1) 4 := rfl
  replace t4 : σ (h0 + 1) 5 = σ (h0 + 1) 5 := rfl
  replace t5 : σ (h0 + 1) 6 = σ (h0 + 1) 6 := rfl
  replace t6 : σ (h0 + 1) 1 = σ (h0 + 1) 1 := rfl
  have hC : zz_ch (fun a k => (a = h0 + 3 ∨ (h0 + 7 ≤ a ∧ a ≤ h0 + 11)) ∨ (a = h0 + 1 ∧ k = 1)) σ σ := zz_ch.rf σ
  have hI := hJ.1
  obtain ⟨hh, hsl, hd, hp, htc, hwc, hM, hT⟩ := id hI
  have hz5 := hJ.2.2.1
  have htr := hJ.2.2.2
  refine lv_aload_n hx hb dX9_seed_0 rfl (lv_at hl 0 rfl) ?_
  refine lv_iconst (v := 1) hx hb dX9_seed_1 (by decide) ?_
  refine lv_iload_n hx hb dX9_seed_2 rfl (lv_at hl 1 rfl) ?_
  refine zz_callVi (As := [.int 1, .int v]) (rest := []) ⟨hx, hb, hml, hown, hts⟩ hK hP hS (c_X9_becomes l E σ h0 1 v g0 (by omega)) (cwV 2 hts gX9_seed_X9_becomes rfl rfl rfl (by decide +kernel) ⟨Nat.le_of_ble_eq_true rfl, Nat.le_of_ble_eq_true rfl⟩) (g0.1) rfl rfl hl.1 rfl (Nat.le_of_ble_eq_true rfl) dX9_seed_3 ⟨Nat.zero_le _, Nat.zero_le _⟩ (fun r1 σ1 H locs q1 hP1 hS1 => ?_)
  replace hP := hP1
  replace hS := hS1
  clear hP1 hS1
  try dsimp only at q1
  obtain ⟨w1, f1⟩ := q1
  replace hC := hC.tr (w1.mono (by intro a k h; first | (dsimp only at h ⊢; omega) | omega | (dsimp only at h; omega) | (dsimp only; omega)))
  replace t0 : σ1 (h0 + 1) 2 = σ (h0 + 1) 2 := (w1 _ _ (by first | (dsimp only; omega) | omega)).trans t0
  replace t1 : σ1 (h0 + 1) 3 = σ (h0 + 1) 3 := (w1 _ _ (by first | (dsimp only; omega) | omega)).trans t1
  replace t2 : σ1 (h0 + 1) 0 = σ (h0 + 1) 0 := (w1 _ _ (by first | (dsimp only; omega) | omega)).trans t2
  replace t3 : σ1 (h0 + 1) 4 = σ (h0 + 1) 4 := (w1 _ _ (by first | (dsimp only; omega) | omega)).trans t3
  replace t4 : σ1 (h0 + 1) 5 = σ (h0 + 1) 5 := (w1 _ _ (by first | (dsimp only; omega) | omega)).trans t4
  replace t5 : σ1 (h0 + 1) 6 = σ (h0 + 1) 6 := (w1 _ _ (by first | (dsimp only; omega) | omega)).trans t5
  replace t6 : σ1 (h0 + 1) 1 = σ1 (h0 + 1) 1 := rfl
  exact zz_iret hx hb hr hlocks hK hP hS dX9_seed_6 (by have h1 := f1.1; have h2 := f1.2.1; rw [k_1] at h1 h2; exact ⟨hC, (hJ.row (hI.scal (fun k hk => hC _ _ (by first | (dsimp only; omega) | omega)) (fun j hj => by rw [hC _ _ (by first | (dsimp only; omega) | omega)]; exact hM j hj) (by rw [t2]; omega) (by rw [t3]; omega) (by rw [t0]; omega) (by rw [t1]; omega) (by rw [t4]; omega) (by rw [t5]; omega)) (hC.mono (by intro a k h; first | (dsimp only at h ⊢; omega) | omega))), h1, h2⟩)
