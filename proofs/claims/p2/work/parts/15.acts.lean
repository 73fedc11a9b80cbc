set_option maxRecDepth 20000 in
theorem ggX8_dream_X8_isKindAndNumber : GoodIn wsX8_dream wsX8_isKindAndNumber := goodIn_r _ [5, 6, 7, 4, 8] (by decide +kernel) (by decide +kernel)
set_option maxRecDepth 20000 in
theorem gX8_dream_X8_isKindAndNumber : GoodIn wsX8_dream (va_wsS RX8 57 yX8_isKindAndNumber wsX8_isKindAndNumber) := goodIn_app (goodIn_of _ (by decide +kernel)) ggX8_dream_X8_isKindAndNumber
set_option maxRecDepth 20000 in
theorem ggX8_dream_X8_isMatterAndSide : GoodIn wsX8_dream wsX8_isMatterAndSide := goodIn_r _ [11, 6, 7, 4, 8] (by decide +kernel) (by decide +kernel)
set_option maxRecDepth 20000 in
theorem gX8_dream_X8_isMatterAndSide : GoodIn wsX8_dream (va_wsS RX8 61 yX8_isMatterAndSide wsX8_isMatterAndSide) := goodIn_app (goodIn_of _ (by decide +kernel)) ggX8_dream_X8_isMatterAndSide
set_option maxRecDepth 20000 in
theorem ggX8_dream_X8_within : GoodIn wsX8_dream wsX8_within := goodIn_r _ [8] (by decide +kernel) (by decide +kernel)
set_option maxRecDepth 20000 in
theorem gX8_dream_X8_within : GoodIn wsX8_dream (va_wsS RX8 64 yX8_within wsX8_within) := goodIn_app (goodIn_of _ (by decide +kernel)) ggX8_dream_X8_within
set_option maxRecDepth 20000 in
theorem ggX8_dream_X8_refuse : GoodIn wsX8_dream wsX8_refuse := goodIn_r _ [15, 16, 17, 31, 32, 33, 34, 35, 36, 37, 38, 39, 40] (by decide +kernel) (by decide +kernel)
set_option maxRecDepth 20000 in
theorem gX8_dream_X8_refuse : GoodIn wsX8_dream (wsV RX8 68 RX8 yX8_refuse wsX8_refuse) := goodIn_app (goodIn_of _ (by decide +kernel)) ggX8_dream_X8_refuse
set_option maxRecDepth 20000 in
theorem ggX8_dream_X2_addDream : GoodIn wsX8_dream wsX2_addDream := goodIn_r _ [22, 23, 24, 25, 26, 27, 28, 29, 30, 41, 42, 43, 44, 45, 46, 47, 48, 49, 50, 51, 52, 53, 54, 55, 56, 57, 58] (by decide +kernel) (by decide +kernel)
set_option maxRecDepth 20000 in
theorem gX8_dream_X2_addDream : GoodIn wsX8_dream (wsV RX8 72 RX2 yX2_addDream wsX2_addDream) := goodIn_app (goodIn_of _ (by decide +kernel)) ggX8_dream_X2_addDream
set_option maxHeartbeats 4000000 in
set_option maxRecDepth 100000 in
theorem c_X8_dream (l : Launch) (E : zz_E) (σ : zz_S) (h0 : Nat) (km : Int32) (mb : Int32) (day : Int32) (g0 : zz_L E h0) (hI : zz_IX σ h0) : Met l yX8_dream wsX8_dream ({ frames := 2, cells := 0, slots := 0, locals := 42 }) (va_Pc [.ref h0, .int km, .int mb, .int day] (zz_B E σ)) (va_Qi (fun r σ1 => zz_ch (fun a k => (h0 ≤ a ∧ a < h0 + 76 ∧ a ≠ h0 ∧ a ≠ h0 + 1 ∧ a ≠ h0 + 5 ∧ a ≠ h0 + 22 ∧ a ≠ h0 + 25 ∧ a ≠ h0 + 28 ∧ a ≠ h0 + 32 ∧ a ≠ h0 + 49 ∧ a ≠ h0 + 52 ∧ a ≠ h0 + 56 ∧ a ≠ h0 + 68 ∧ a ≠ h0 + 70 ∧ a ≠ h0 + 72 ∧ a ≠ h0 + 74) ∨ (a = h0 + 1 ∧ k = 4)) σ σ1 ∧ (zz_IX σ1 h0 ∧ ((¬ (0 ≤ km.toInt ∧ km.toInt ≤ 69 ∧ 0 ≤ mb.toInt ∧ mb.toInt ≤ 99 ∧ mb.toInt % 10 ≤ 1 ∧ 0 ≤ day.toInt ∧ day.toInt ≤ 99) ∧ r.toInt = -1000000001 ∧ (σ1 (h0 + 1) 4).toInt = (σ (h0 + 1) 4).toInt) ∨ ((0 ≤ km.toInt ∧ km.toInt ≤ 69 ∧ 0 ≤ mb.toInt ∧ mb.toInt ≤ 99 ∧ mb.toInt % 10 ≤ 1 ∧ 0 ≤ day.toInt ∧ day.toInt ≤ 99) ∧ (((σ (h0 + 1) 4).toInt = 9 ∧ r.toInt = -1000000004 ∧ (σ1 (h0 + 1) 4).toInt = 9) ∨ ((σ (h0 + 1) 4).toInt < 9 ∧ r.toInt = (σ (h0 + 1) 4).toInt ∧ (σ1 (h0 + 1) 4).toInt = (σ (h0 + 1) 4).toInt + 1)))))) (zz_B E) (zz_A E)) 0 0 (zz_A E) := by
  refine zz_met (cc := cX8_dream) (maxL := 5) (ret := (some .int)) (by decide) rfl (Nat.le_of_ble_eq_true rfl) ?_
  intro p e s m args below meth c ls hx hb hr hts hown hlocks hml hK hP hS hl
  have hl : lv_has ls 5 [(0, .ref h0), (1, .int km), (2, .int mb), (3, .int day)] := hl
  have hown : s.vm.findClass RX8 = some m.cls := hown
  have hi8 : ∀ w ∈ wsX80, w ∈ wsX8_dream := by decide +kernel
  have k_0 : (0 : Int32).toInt = 0 := by decide +kernel
  have k_1 : (1 : Int32).toInt = 1 := by decide +kernel
  have k_4 : (4 : Int32).toInt = 4 := by decide +kernel
  have k_99 : (99 : Int32).toInt = 99 := by decide +kernel
  have t0 : σ (h0 + 1) 0 = σ (h0 + 1) 0 := rfl
  have t1 : σ (h0 + 1) 1 = σ (h0 + 1) 1 := rfl
  have t2 : σ (h0 + 1) 4 = σ (h0 + 1) 4 := rfl
  have t3 : σ (h0 + 1) 6 = σ (h0 + 1) 6 := rfl
  have t4 : σ (h0 + 1) 9 = σ (h0 + 1) 9 := rfl
  have t5 : σ (h0 + 1) 11 = σ (h0 + 1) 11 := rfl
  have t6 : σ (h0 + 1) 2 = σ (h0 + 1) 2 := rfl
  have hC : zz_ch (fun a k => (h0 ≤ a ∧ a < h0 + 76 ∧ a ≠ h0 ∧ a ≠ h0 + 1 ∧ a ≠ h0 + 5 ∧ a ≠ h0 + 22 ∧ a ≠ h0 + 25 ∧ a ≠ h0 + 28 ∧ a ≠ h0 + 32 ∧ a ≠ h0 + 49 ∧ a ≠ h0 + 52 ∧ a ≠ h0 + 56 ∧ a ≠ h0 + 68 ∧ a ≠ h0 + 70 ∧ a ≠ h0 + 72 ∧ a ≠ h0 + 74) ∨ (a = h0 + 1 ∧ k = 4)) σ σ := zz_ch.rf σ
  obtain ⟨⟨hh, hsl, hd, hp, htc, hwc, ht, hft, hst⟩, hkI, hsh, hspk⟩ := id hI
  refine lv_iload_n hx hb dX8_dream_0 rfl (lv_at hl 1 rfl) ?_
  refine zz_callSp (As := [.int km]) (rest := []) ⟨hx, hb, hml, hown, hts⟩ hK hP hS (c_X8_isKindAndNumber l E σ km) (va_cwS 1 hts gX8_dream_X8_isKindAndNumber rfl rfl rfl (by decide +kernel) ⟨Nat.le_of_ble_eq_true rfl, Nat.le_of_ble_eq_true rfl⟩) rfl hl.1 rfl (Nat.le_of_ble_eq_true rfl) dX8_dream_1 ⟨Nat.zero_le _, Nat.zero_le _⟩ (fun r1 H locs f1 hP hS => ?_)
  refine lv_if_eq (tgt := 24) hx hb dX8_dream_4 (by decide) (fun c2 => ?_) (fun c2 => ?_)
  · have c2 := zz_eqT c2
    refine lv_aload_n hx hb dX8_dream_24 rfl (lv_at hl 0 rfl) ?_
    refine lv_iconst (v := 1) hx hb dX8_dream_25 (by decide) ?_
    refine zz_callVi (As := [.int 1]) (rest := []) ⟨hx, hb, hml, hown, hts⟩ hK hP hS (c_X8_refuse l E σ h0 1 g0 (by omega)) (cwV 1 hts gX8_dream_X8_refuse rfl rfl rfl (by decide +kernel) ⟨Nat.le_of_ble_eq_true rfl, Nat.le_of_ble_eq_true rfl⟩) (g0.1) rfl rfl hl.1 rfl (Nat.le_of_ble_eq_true rfl) dX8_dream_26 ⟨Nat.zero_le _, Nat.zero_le _⟩ (fun r3 σ3 H locs q3 hP hS => ?_)
    try dsimp only at q3
    obtain ⟨w3, f3⟩ := q3
    have hC := hC.tr (w3.mono (by intro a k h; first | omega | (dsimp only at h ⊢; omega) | (dsimp only at h; omega) | (dsimp only; omega)))
    have t0 : σ3 (h0 + 1) 0 = σ (h0 + 1) 0 := (w3 _ _ (by first | omega | (dsimp only; omega))).trans t0
    have t1 : σ3 (h0 + 1) 1 = σ (h0 + 1) 1 := (w3 _ _ (by first | omega | (dsimp only; omega))).trans t1
    have t2 : σ3 (h0 + 1) 4 = σ (h0 + 1) 4 := (w3 _ _ (by first | omega | (dsimp only; omega))).trans t2
    have t3 : σ3 (h0 + 1) 6 = σ (h0 + 1) 6 := (w3 _ _ (by first | omega | (dsimp only; omega))).trans t3
    have t4 : σ3 (h0 + 1) 9 = σ (h0 + 1) 9 := (w3 _ _ (by first | omega | (dsimp only; omega))).trans t4
    have t5 : σ3 (h0 + 1) 11 = σ (h0 + 1) 11 := (w3 _ _ (by first | omega | (dsimp only; omega))).trans t5
    have t6 : σ3 (h0 + 1) 2 = σ (h0 + 1) 2 := (w3 _ _ (by first | omega | (dsimp only; omega))).trans t6
    exact zz_iret hx hb hr hlocks hK hP hS dX8_dream_29 (by exact ⟨hC, (hI.scal (hC.mono (by intro a k h; dsimp only at h ⊢; omega)) (by rw [t0]; omega) (by rw [t1]; omega) (by rw [t2]; omega) (by rw [t3]; omega) (by rw [t4]; omega) (by rw [t5]; omega)), by rw [t2]; omega⟩)
  · have c2 := zz_neT c2
    refine lv_iload_n hx hb dX8_dream_7 rfl (lv_at hl 2 rfl) ?_
    refine zz_callSp (As := [.int mb]) (rest := []) ⟨hx, hb, hml, hown, hts⟩ hK hP hS (c_X8_isMatterAndSide l E σ mb) (va_cwS 1 hts gX8_dream_X8_isMatterAndSide rfl rfl rfl (by decide +kernel) ⟨Nat.le_of_ble_eq_true rfl, Nat.le_of_ble_eq_true rfl⟩) rfl hl.1 rfl (Nat.le_of_ble_eq_true rfl) dX8_dream_8 ⟨Nat.zero_le _, Nat.zero_le _⟩ (fun r4 H locs f4 hP hS => ?_)
    refine lv_if_eq (tgt := 24) hx hb dX8_dream_11 (by decide) (fun c5 => ?_) (fun c5 => ?_)
    · have c5 := zz_eqT c5
      refine lv_aload_n hx hb dX8_dream_24 rfl (lv_at hl 0 rfl) ?_
      refine lv_iconst (v := 1) hx hb dX8_dream_25 (by decide) ?_
      refine zz_callVi (As := [.int 1]) (rest := []) ⟨hx, hb, hml, hown, hts⟩ hK hP hS (c_X8_refuse l E σ h0 1 g0 (by omega)) (cwV 1 hts gX8_dream_X8_refuse rfl rfl rfl (by decide +kernel) ⟨Nat.le_of_ble_eq_true rfl, Nat.le_of_ble_eq_true rfl⟩) (g0.1) rfl rfl hl.1 rfl (Nat.le_of_ble_eq_true rfl) dX8_dream_26 ⟨Nat.zero_le _, Nat.zero_le _⟩ (fun r6 σ6 H locs q6 hP hS => ?_)
      try dsimp only at q6
      obtain ⟨w6, f6⟩ := q6
      have hC := hC.tr (w6.mono (by intro a k h; first | omega | (dsimp only at h ⊢; omega) | (dsimp only at h; omega) | (dsimp only; omega)))
      have t0 : σ6 (h0 + 1) 0 = σ (h0 + 1) 0 := (w6 _ _ (by first | omega | (dsimp only; omega))).trans t0
      have t1 : σ6 (h0 + 1) 1 = σ (h0 + 1) 1 := (w6 _ _ (by first | omega | (dsimp only; omega))).trans t1
      have t2 : σ6 (h0 + 1) 4 = σ (h0 + 1) 4 := (w6 _ _ (by first | omega | (dsimp only; omega))).trans t2
      have t3 : σ6 (h0 + 1) 6 = σ (h0 + 1) 6 := (w6 _ _ (by first | omega | (dsimp only; omega))).trans t3
      have t4 : σ6 (h0 + 1) 9 = σ (h0 + 1) 9 := (w6 _ _ (by first | omega | (dsimp only; omega))).trans t4
      have t5 : σ6 (h0 + 1) 11 = σ (h0 + 1) 11 := (w6 _ _ (by first | omega | (dsimp only; omega))).trans t5
      have t6 : σ6 (h0 + 1) 2 = σ (h0 + 1) 2 := (w6 _ _ (by first | omega | (dsimp only; omega))).trans t6
      exact zz_iret hx hb hr hlocks hK hP hS dX8_dream_29 (by exact ⟨hC, (hI.scal (hC.mono (by intro a k h; dsimp only at h ⊢; omega)) (by rw [t0]; omega) (by rw [t1]; omega) (by rw [t2]; omega) (by rw [t3]; omega) (by rw [t4]; omega) (by rw [t5]; omega)), by rw [t2]; omega⟩)
    · have c5 := zz_neT c5
      refine lv_iload_n hx hb dX8_dream_14 rfl (lv_at hl 3 rfl) ?_
      refine lv_iconst (v := 0) hx hb dX8_dream_15 (by decide) ?_
      refine lv_bipush (v := 99) hx hb dX8_dream_16 (by decide) ?_
      refine zz_callSp (As := [.int day, .int 0, .int 99]) (rest := []) ⟨hx, hb, hml, hown, hts⟩ hK hP hS (c_X8_within l E σ day 0 99) (va_cwS 3 hts gX8_dream_X8_within rfl rfl rfl (by decide +kernel) ⟨Nat.le_of_ble_eq_true rfl, Nat.le_of_ble_eq_true rfl⟩) rfl hl.1 rfl (Nat.le_of_ble_eq_true rfl) dX8_dream_18 ⟨Nat.zero_le _, Nat.zero_le _⟩ (fun r7 H locs f7 hP hS => ?_)
      refine lv_if_ne (tgt := 30) hx hb dX8_dream_21 (by decide) (fun c8 => ?_) (fun c8 => ?_)
      · have c8 := zz_neT c8
        refine lv_aload_n hx hb dX8_dream_30 rfl (lv_at hl 0 rfl) ?_
        refine zz_getr hx hb hts hi8 hown hK hP (g0.1) rfl 0 (by decide) (hts (.fieldLink RX8 10 "NoonLaw" "realm" "LNoonLaw$Realm;") (by decide +kernel)) rfl rfl dX8_dream_31 ?_
        refine lv_iload_n hx hb dX8_dream_34 rfl (lv_at hl 1 rfl) ?_
        refine lv_iload_n hx hb dX8_dream_35 rfl (lv_at hl 2 rfl) ?_
        refine lv_iload_n hx hb dX8_dream_36 rfl (lv_at hl 3 rfl) ?_
        refine zz_callVi (As := [.int km, .int mb, .int day]) (rest := []) ⟨hx, hb, hml, hown, hts⟩ hK hP hS (c_X2_addDream l E σ (h0 + 1) km mb day (g0.2.1) (by exact hd)) (cwV 3 hts gX8_dream_X2_addDream rfl rfl rfl (by decide +kernel) ⟨Nat.le_of_ble_eq_true rfl, Nat.le_of_ble_eq_true rfl⟩) (g0.2.1.1) rfl rfl hl.1 rfl (Nat.le_of_ble_eq_true rfl) dX8_dream_37 ⟨Nat.zero_le _, Nat.zero_le _⟩ (fun r9 σ9 H locs q9 hP hS => ?_)
        try dsimp only at q9
        obtain ⟨w9, f9⟩ := q9
        have hC := hC.tr (w9.mono (by intro a k h; first | omega | (dsimp only at h ⊢; omega) | (dsimp only at h; omega) | (dsimp only; omega)))
        have t0 : σ9 (h0 + 1) 0 = σ (h0 + 1) 0 := (w9 _ _ (by first | omega | (dsimp only; omega))).trans t0
        have t1 : σ9 (h0 + 1) 1 = σ (h0 + 1) 1 := (w9 _ _ (by first | omega | (dsimp only; omega))).trans t1
        have t2 : σ9 (h0 + 1) 4 = σ9 (h0 + 1) 4 := rfl
        have t3 : σ9 (h0 + 1) 6 = σ (h0 + 1) 6 := (w9 _ _ (by first | omega | (dsimp only; omega))).trans t3
        have t4 : σ9 (h0 + 1) 9 = σ (h0 + 1) 9 := (w9 _ _ (by first | omega | (dsimp only; omega))).trans t4
        have t5 : σ9 (h0 + 1) 11 = σ (h0 + 1) 11 := (w9 _ _ (by first | omega | (dsimp only; omega))).trans t5
        have t6 : σ9 (h0 + 1) 2 = σ (h0 + 1) 2 := (w9 _ _ (by first | omega | (dsimp only; omega))).trans t6
        refine lv_istore (lv' := [(4, .int r9), (0, .ref h0), (1, .int km), (2, .int mb), (3, .int day)]) hx hb dX8_dream_40 hl (by decide) rfl (fun ls hl => ?_)
        refine lv_iload hx hb dX8_dream_42 (lv_at hl 0 rfl) ?_
        refine lv_if_ge (tgt := 55) hx hb dX8_dream_44 (by decide) (fun c10 => ?_) (fun c10 => ?_)
        · have c10 := zz_leT c10
          refine lv_iload hx hb dX8_dream_55 (lv_at hl 0 rfl) ?_
          exact zz_iret hx hb hr hlocks hK hP hS dX8_dream_57 (by exact ⟨hC, (hI.scal (hC.mono (by intro a k h; dsimp only at h ⊢; omega)) (by rw [t0]; omega) (by rw [t1]; omega) (by rw [t2]; omega) (by rw [t3]; omega) (by rw [t4]; omega) (by rw [t5]; omega)), by rw [t2]; omega⟩)
        · have c10 := zz_nleT c10
          refine lv_aload_n hx hb dX8_dream_47 rfl (lv_at hl 1 rfl) ?_
          refine lv_iconst (v := 4) hx hb dX8_dream_48 (by decide) ?_
          refine zz_callVi (As := [.int 4]) (rest := []) ⟨hx, hb, hml, hown, hts⟩ hK hP hS (c_X8_refuse l E σ9 h0 4 g0 (by omega)) (cwV 1 hts gX8_dream_X8_refuse rfl rfl rfl (by decide +kernel) ⟨Nat.le_of_ble_eq_true rfl, Nat.le_of_ble_eq_true rfl⟩) (g0.1) rfl rfl hl.1 rfl (Nat.le_of_ble_eq_true rfl) dX8_dream_49 ⟨Nat.zero_le _, Nat.zero_le _⟩ (fun r11 σ11 H locs q11 hP hS => ?_)
          try dsimp only at q11
          obtain ⟨w11, f11⟩ := q11
          have hC := hC.tr (w11.mono (by intro a k h; first | omega | (dsimp only at h ⊢; omega) | (dsimp only at h; omega) | (dsimp only; omega)))
          have t0 : σ11 (h0 + 1) 0 = σ (h0 + 1) 0 := (w11 _ _ (by first | omega | (dsimp only; omega))).trans t0
          have t1 : σ11 (h0 + 1) 1 = σ (h0 + 1) 1 := (w11 _ _ (by first | omega | (dsimp only; omega))).trans t1
          have t2 : σ11 (h0 + 1) 4 = σ9 (h0 + 1) 4 := (w11 _ _ (by first | omega | (dsimp only; omega))).trans t2
          have t3 : σ11 (h0 + 1) 6 = σ (h0 + 1) 6 := (w11 _ _ (by first | omega | (dsimp only; omega))).trans t3
          have t4 : σ11 (h0 + 1) 9 = σ (h0 + 1) 9 := (w11 _ _ (by first | omega | (dsimp only; omega))).trans t4
          have t5 : σ11 (h0 + 1) 11 = σ (h0 + 1) 11 := (w11 _ _ (by first | omega | (dsimp only; omega))).trans t5
          have t6 : σ11 (h0 + 1) 2 = σ (h0 + 1) 2 := (w11 _ _ (by first | omega | (dsimp only; omega))).trans t6
          refine lv_goto (tgt := 57) hx hb dX8_dream_52 (by decide) ?_
          exact zz_iret hx hb hr hlocks hK hP hS dX8_dream_57 (by exact ⟨hC, (hI.scal (hC.mono (by intro a k h; dsimp only at h ⊢; omega)) (by rw [t0]; omega) (by rw [t1]; omega) (by rw [t2]; omega) (by rw [t3]; omega) (by rw [t4]; omega) (by rw [t5]; omega)), by rw [t2]; omega⟩)
      · have c8 := zz_eqT c8
        refine lv_aload_n hx hb dX8_dream_24 rfl (lv_at hl 0 rfl) ?_
        refine lv_iconst (v := 1) hx hb dX8_dream_25 (by decide) ?_
        refine zz_callVi (As := [.int 1]) (rest := []) ⟨hx, hb, hml, hown, hts⟩ hK hP hS (c_X8_refuse l E σ h0 1 g0 (by omega)) (cwV 1 hts gX8_dream_X8_refuse rfl rfl rfl (by decide +kernel) ⟨Nat.le_of_ble_eq_true rfl, Nat.le_of_ble_eq_true rfl⟩) (g0.1) rfl rfl hl.1 rfl (Nat.le_of_ble_eq_true rfl) dX8_dream_26 ⟨Nat.zero_le _, Nat.zero_le _⟩ (fun r12 σ12 H locs q12 hP hS => ?_)
        try dsimp only at q12
        obtain ⟨w12, f12⟩ := q12
        have hC := hC.tr (w12.mono (by intro a k h; first | omega | (dsimp only at h ⊢; omega) | (dsimp only at h; omega) | (dsimp only; omega)))
        have t0 : σ12 (h0 + 1) 0 = σ (h0 + 1) 0 := (w12 _ _ (by first | omega | (dsimp only; omega))).trans t0
        have t1 : σ12 (h0 + 1) 1 = σ (h0 + 1) 1 := (w12 _ _ (by first | omega | (dsimp only; omega))).trans t1
        have t2 : σ12 (h0 + 1) 4 = σ (h0 + 1) 4 := (w12 _ _ (by first | omega | (dsimp only; omega))).trans t2
        have t3 : σ12 (h0 + 1) 6 = σ (h0 + 1) 6 := (w12 _ _ (by first | omega | (dsimp only; omega))).trans t3
        have t4 : σ12 (h0 + 1) 9 = σ (h0 + 1) 9 := (w12 _ _ (by first | omega | (dsimp only; omega))).trans t4
        have t5 : σ12 (h0 + 1) 11 = σ (h0 + 1) 11 := (w12 _ _ (by first | omega | (dsimp only; omega))).trans t5
        have t6 : σ12 (h0 + 1) 2 = σ (h0 + 1) 2 := (w12 _ _ (by first | omega | (dsimp only; omega))).trans t6
        exact zz_iret hx hb hr hlocks hK hP hS dX8_dream_29 (by exact ⟨hC, (hI.scal (hC.mono (by intro a k h; dsimp only at h ⊢; omega)) (by rw [t0]; omega) (by rw [t1]; omega) (by rw [t2]; omega) (by rw [t3]; omega) (by rw [t4]; omega) (by rw [t5]; omega)), by rw [t2]; omega⟩)
