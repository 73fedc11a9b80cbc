theorem gX8_dream_X8_isKindAndNumber : GoodIn wzX8_dream (va_wsS RX8 57 yX8_isKindAndNumber wzX8_isKindAndNumber) := wz_co bm_109 (wz_co bm_110 (wz_co bm_2 (wz_in bm_111)))
theorem gX8_dream_X8_isMatterAndSide : GoodIn wzX8_dream (va_wsS RX8 61 yX8_isMatterAndSide wzX8_isMatterAndSide) := wz_co bm_115 (wz_co bm_116 (wz_co bm_2 (wz_in bm_117)))
theorem gX8_dream_X8_within : GoodIn wzX8_dream (va_wsS RX8 64 yX8_within wzX8_within) := wz_co bm_112 (wz_co bm_113 (wz_co bm_2 (wz_in bm_114)))
theorem gX8_dream_X8_refuse : GoodIn wzX8_dream (wsV RX8 68 RX8 yX8_refuse wzX8_refuse) := wz_co bm_118 (wz_co bm_119 (wz_co bm_120 (wz_co bm_2 (wz_in bm_121))))
theorem gX8_dream_X2_addDream : GoodIn wzX8_dream (wsV RX8 72 RX2 yX2_addDream wzX2_addDream) := wz_co bm_123 (wz_co bm_124 (wz_co bm_125 (wz_co bm_15 (wz_in bm_126))))
theorem dS15_1 (x0 : Nat) : ∀ a k : Nat, (a = (x0) + 65) → (a = x0 + 24 ∨ a = x0 + 27 ∨ (x0 + 58 ≤ a ∧ a ≤ x0 + 67) ∨ (a = x0 + 1 ∧ k = 4) ∨ (x0 + 7 ≤ a ∧ a < x0 + 16)) := by intro a k h; omega
theorem dS15_2 (x0 : Nat) : ¬ ((x0 + 1) = (x0) + 65) := by omega
theorem dS15_3 (x0 : Nat) : ∀ a k : Nat, ((a = (x0 + 1) ∧ k = 4) ∨ ((x0 + 1) + 6 ≤ a ∧ a < (x0 + 1) + 15)) → (a = x0 + 24 ∨ a = x0 + 27 ∨ (x0 + 58 ≤ a ∧ a ≤ x0 + 67) ∨ (a = x0 + 1 ∧ k = 4) ∨ (x0 + 7 ≤ a ∧ a < x0 + 16)) := by intro a k h; omega
theorem dS15_4 (x0 : Nat) : ¬ (((x0 + 1) = (x0 + 1) ∧ (0) = 4) ∨ ((x0 + 1) + 6 ≤ (x0 + 1) ∧ (x0 + 1) < (x0 + 1) + 15)) := by omega
theorem dS15_5 (x0 : Nat) : ¬ (((x0 + 1) = (x0 + 1) ∧ (1) = 4) ∨ ((x0 + 1) + 6 ≤ (x0 + 1) ∧ (x0 + 1) < (x0 + 1) + 15)) := by omega
theorem dS15_6 (x0 : Nat) : ¬ (((x0 + 1) = (x0 + 1) ∧ (6) = 4) ∨ ((x0 + 1) + 6 ≤ (x0 + 1) ∧ (x0 + 1) < (x0 + 1) + 15)) := by omega
theorem dS15_7 (x0 : Nat) : ¬ (((x0 + 1) = (x0 + 1) ∧ (9) = 4) ∨ ((x0 + 1) + 6 ≤ (x0 + 1) ∧ (x0 + 1) < (x0 + 1) + 15)) := by omega
theorem dS15_8 (x0 : Nat) : ¬ (((x0 + 1) = (x0 + 1) ∧ (11) = 4) ∨ ((x0 + 1) + 6 ≤ (x0 + 1) ∧ (x0 + 1) < (x0 + 1) + 15)) := by omega
theorem dS15_9 (x0 : Nat) : ¬ (((x0 + 1) = (x0 + 1) ∧ (2) = 4) ∨ ((x0 + 1) + 6 ≤ (x0 + 1) ∧ (x0 + 1) < (x0 + 1) + 15)) := by omega
set_option maxHeartbeats 4000000 in
set_option maxRecDepth 100000 in
theorem c_X8_dream (l : Launch) (E : zz_E) (σ : zz_S) (h0 : Nat) (km : Int32) (mb : Int32) (day : Int32) (g0 : zz_L E h0) (hI : zz_IX σ h0) : Met l yX8_dream wzX8_dream ({ frames := 2, cells := 0, slots := 0, locals := 42 }) (va_Pc [.ref h0, .int km, .int mb, .int day] (zz_B E σ)) (va_Qi (fun r σ1 => zz_ch (fun a k => a = h0 + 24 ∨ a = h0 + 27 ∨ (h0 + 58 ≤ a ∧ a ≤ h0 + 67) ∨ (a = h0 + 1 ∧ k = 4) ∨ (h0 + 7 ≤ a ∧ a < h0 + 16)) σ σ1 ∧ (zz_IX σ1 h0 ∧ (((¬ (0 ≤ km.toInt ∧ km.toInt ≤ 69 ∧ 0 ≤ mb.toInt ∧ mb.toInt ≤ 99 ∧ mb.toInt % 10 ≤ 1 ∧ 0 ≤ day.toInt ∧ day.toInt ≤ 99) ∧ r.toInt = -1000000001 ∧ (σ1 (h0 + 1) 4).toInt = (σ (h0 + 1) 4).toInt) ∨ ((0 ≤ km.toInt ∧ km.toInt ≤ 69 ∧ 0 ≤ mb.toInt ∧ mb.toInt ≤ 99 ∧ mb.toInt % 10 ≤ 1 ∧ 0 ≤ day.toInt ∧ day.toInt ≤ 99) ∧ (((σ (h0 + 1) 4).toInt = 9 ∧ r.toInt = -1000000004 ∧ (σ1 (h0 + 1) 4).toInt = 9) ∨ ((σ (h0 + 1) 4).toInt < 9 ∧ r.toInt = (σ (h0 + 1) 4).toInt ∧ (σ1 (h0 + 1) 4).toInt = (σ (h0 + 1) 4).toInt + 1)))) ∧ (r.toInt < 0 → zz_DX σ1 (h0 + 1) = zz_DX σ (h0 + 1)) ∧ (0 ≤ r.toInt → zz_DX σ1 (h0 + 1) = zz_dn (zz_DX σ (h0 + 1)) (σ (h0 + 1) 4).toInt (km.toInt / 10) (km.toInt % 10) (mb.toInt / 10) (mb.toInt % 10) day.toInt)))) (zz_B E) (zz_A E)) 0 0 (zz_A E) := by
  refine zz_met (cc := cX8_dream) (maxL := 5) (ret := (some .int)) (by decide) rfl (Nat.le_of_ble_eq_true rfl) ?_
  intro p e s m args below meth c ls hx hb hr hts hown hlocks hml hK hP hS hl
  have hl : lv_has ls 5 [(0, .ref h0), (1, .int km), (2, .int mb), (3, .int day)] := hl
  have hown : s.vm.findClass RX8 = some m.cls := hown
  have hi8 : ∀ w ∈ wsX80, w ∈ wzX8_dream := fun w h => List.mem_cons_of_mem _ (hbw8 w h)
  have k_0 : (0 : Int32).toInt = 0 := by decide +kernel
  have k_1 : (1 : Int32).toInt = 1 := by decide +kernel
  have k_4 : (4 : Int32).toInt = 4 := by decide +kernel
  have k_99 : (99 : Int32).toInt = 99 := by decide +kernel
  replace t0 : σ (h0 + 1) 0 = σ (h0 + 1) 0 := rfl
  replace t1 : σ (h0 + 1) 1 = σ (h0 + 1) 1 := rfl
  replace t2 : σ (h0 + 1) 4 = σ (h0 + 1) 4 := rfl
  replace t3 : σ (h0 + 1) 6 = σ (h0 + 1) 6 := rfl
  replace t4 : σ (h0 + 1) 9 = σ (h0 + 1) 9 := rfl
  replace t5 : σ (h0 + 1) 11 = σ (h0 + 1) 11 := rfl
  replace t6 : σ (h0 + 1) 2 = σ (h0 + 1) 2 := rfl
  have hC : zz_ch (fun a k => a = h0 + 24 ∨ a = h0 + 27 ∨ (h0 + 58 ≤ a ∧ a ≤ h0 + 67) ∨ (a = h0 + 1 ∧ k = 4) ∨ (h0 + 7 ≤ a ∧ a < h0 + 16)) σ σ := zz_ch.rf σ
  obtain ⟨⟨hh, hsl, hd, hp, htc, hwc, ht, hft, hst, hid⟩, hkI, hsh, hspk⟩ := id hI
  refine lv_iload_n hx hb dX8_dream_0 rfl (lv_at hl 1 rfl) ?_
  refine zz_callSp (As := [.int km]) (rest := []) ⟨hx, hb, hml, hown, hts⟩ hK hP hS (c_X8_isKindAndNumber l E σ km) (va_cwS 1 hts gX8_dream_X8_isKindAndNumber rfl rfl rfl (by decide +kernel) ⟨Nat.le_of_ble_eq_true rfl, Nat.le_of_ble_eq_true rfl⟩) rfl hl.1 rfl (Nat.le_of_ble_eq_true rfl) dX8_dream_1 ⟨Nat.zero_le _, Nat.zero_le _⟩ (fun r1 H locs f1 hP1 hS1 => ?_)
  replace hP := hP1
  replace hS := hS1
  clear hP1 hS1
  refine lv_if_eq (tgt := 24) hx hb dX8_dream_4 (by decide) (fun c2 => ?_) (fun c2 => ?_)
  · have c2 := zz_eqT c2
    refine lv_aload_n hx hb dX8_dream_24 rfl (lv_at hl 0 rfl) ?_
    refine lv_iconst (v := 1) hx hb dX8_dream_25 (by decide) ?_
    refine zz_callVi (As := [.int 1]) (rest := []) ⟨hx, hb, hml, hown, hts⟩ hK hP hS (c_X8_refuse l E σ h0 1 g0 (by omega)) (cwV 1 hts gX8_dream_X8_refuse rfl rfl rfl (by decide +kernel) ⟨Nat.le_of_ble_eq_true rfl, Nat.le_of_ble_eq_true rfl⟩) (g0.1) rfl rfl hl.1 rfl (Nat.le_of_ble_eq_true rfl) dX8_dream_26 ⟨Nat.zero_le _, Nat.zero_le _⟩ (fun r3 σ3 H locs q3 hP1 hS1 => ?_)
    replace hP := hP1
    replace hS := hS1
    clear hP1 hS1
    try dsimp only at q3
    obtain ⟨w3, f3⟩ := q3
    replace hC := hC.tr (w3.mono (dS15_1 h0))
    replace t0 : σ3 (h0 + 1) 0 = σ (h0 + 1) 0 := (w3 (h0 + 1) 0 (dS15_2 h0)).trans t0
    replace t1 : σ3 (h0 + 1) 1 = σ (h0 + 1) 1 := (w3 (h0 + 1) 1 (dS15_2 h0)).trans t1
    replace t2 : σ3 (h0 + 1) 4 = σ (h0 + 1) 4 := (w3 (h0 + 1) 4 (dS15_2 h0)).trans t2
    replace t3 : σ3 (h0 + 1) 6 = σ (h0 + 1) 6 := (w3 (h0 + 1) 6 (dS15_2 h0)).trans t3
    replace t4 : σ3 (h0 + 1) 9 = σ (h0 + 1) 9 := (w3 (h0 + 1) 9 (dS15_2 h0)).trans t4
    replace t5 : σ3 (h0 + 1) 11 = σ (h0 + 1) 11 := (w3 (h0 + 1) 11 (dS15_2 h0)).trans t5
    replace t6 : σ3 (h0 + 1) 2 = σ (h0 + 1) 2 := (w3 (h0 + 1) 2 (dS15_2 h0)).trans t6
    have hDq : zz_DX σ3 (h0 + 1) = zz_DX σ (h0 + 1) := by rw [zz_DXk (r := h0 + 1) w3 (by intro j hj k hk; first | (dsimp only; omega) | omega)]
    exact zz_iret hx hb hr hlocks hK hP hS dX8_dream_29 (by exact ⟨hC, (hI.scal (hC.mono (by intro a k h; first | (dsimp only at h ⊢; omega) | omega)) (by rw [t0]; omega) (by rw [t1]; omega) (by rw [t2]; omega) (by rw [t3]; omega) (by rw [t4]; omega) (by rw [t5]; omega) (by rw [hDq]; exact hid)), by rw [t2]; omega, (fun _ => hDq), (fun q => absurd q (by omega))⟩)
  · have c2 := zz_neT c2
    refine lv_iload_n hx hb dX8_dream_7 rfl (lv_at hl 2 rfl) ?_
    refine zz_callSp (As := [.int mb]) (rest := []) ⟨hx, hb, hml, hown, hts⟩ hK hP hS (c_X8_isMatterAndSide l E σ mb) (va_cwS 1 hts gX8_dream_X8_isMatterAndSide rfl rfl rfl (by decide +kernel) ⟨Nat.le_of_ble_eq_true rfl, Nat.le_of_ble_eq_true rfl⟩) rfl hl.1 rfl (Nat.le_of_ble_eq_true rfl) dX8_dream_8 ⟨Nat.zero_le _, Nat.zero_le _⟩ (fun r4 H locs f4 hP1 hS1 => ?_)
    replace hP := hP1
    replace hS := hS1
    clear hP1 hS1
    refine lv_if_eq (tgt := 24) hx hb dX8_dream_11 (by decide) (fun c5 => ?_) (fun c5 => ?_)
    · have c5 := zz_eqT c5
      refine lv_aload_n hx hb dX8_dream_24 rfl (lv_at hl 0 rfl) ?_
      refine lv_iconst (v := 1) hx hb dX8_dream_25 (by decide) ?_
      refine zz_callVi (As := [.int 1]) (rest := []) ⟨hx, hb, hml, hown, hts⟩ hK hP hS (c_X8_refuse l E σ h0 1 g0 (by omega)) (cwV 1 hts gX8_dream_X8_refuse rfl rfl rfl (by decide +kernel) ⟨Nat.le_of_ble_eq_true rfl, Nat.le_of_ble_eq_true rfl⟩) (g0.1) rfl rfl hl.1 rfl (Nat.le_of_ble_eq_true rfl) dX8_dream_26 ⟨Nat.zero_le _, Nat.zero_le _⟩ (fun r6 σ6 H locs q6 hP1 hS1 => ?_)
      replace hP := hP1
      replace hS := hS1
      clear hP1 hS1
      try dsimp only at q6
      obtain ⟨w6, f6⟩ := q6
      replace hC := hC.tr (w6.mono (dS15_1 h0))
      replace t0 : σ6 (h0 + 1) 0 = σ (h0 + 1) 0 := (w6 (h0 + 1) 0 (dS15_2 h0)).trans t0
      replace t1 : σ6 (h0 + 1) 1 = σ (h0 + 1) 1 := (w6 (h0 + 1) 1 (dS15_2 h0)).trans t1
      replace t2 : σ6 (h0 + 1) 4 = σ (h0 + 1) 4 := (w6 (h0 + 1) 4 (dS15_2 h0)).trans t2
      replace t3 : σ6 (h0 + 1) 6 = σ (h0 + 1) 6 := (w6 (h0 + 1) 6 (dS15_2 h0)).trans t3
      replace t4 : σ6 (h0 + 1) 9 = σ (h0 + 1) 9 := (w6 (h0 + 1) 9 (dS15_2 h0)).trans t4
      replace t5 : σ6 (h0 + 1) 11 = σ (h0 + 1) 11 := (w6 (h0 + 1) 11 (dS15_2 h0)).trans t5
      replace t6 : σ6 (h0 + 1) 2 = σ (h0 + 1) 2 := (w6 (h0 + 1) 2 (dS15_2 h0)).trans t6
      have hDq : zz_DX σ6 (h0 + 1) = zz_DX σ (h0 + 1) := by rw [zz_DXk (r := h0 + 1) w6 (by intro j hj k hk; first | (dsimp only; omega) | omega)]
      exact zz_iret hx hb hr hlocks hK hP hS dX8_dream_29 (by exact ⟨hC, (hI.scal (hC.mono (by intro a k h; first | (dsimp only at h ⊢; omega) | omega)) (by rw [t0]; omega) (by rw [t1]; omega) (by rw [t2]; omega) (by rw [t3]; omega) (by rw [t4]; omega) (by rw [t5]; omega) (by rw [hDq]; exact hid)), by rw [t2]; omega, (fun _ => hDq), (fun q => absurd q (by omega))⟩)
    · have c5 := zz_neT c5
      refine lv_iload_n hx hb dX8_dream_14 rfl (lv_at hl 3 rfl) ?_
      refine lv_iconst (v := 0) hx hb dX8_dream_15 (by decide) ?_
      refine lv_bipush (v := 99) hx hb dX8_dream_16 (by decide) ?_
      refine zz_callSp (As := [.int day, .int 0, .int 99]) (rest := []) ⟨hx, hb, hml, hown, hts⟩ hK hP hS (c_X8_within l E σ day 0 99) (va_cwS 3 hts gX8_dream_X8_within rfl rfl rfl (by decide +kernel) ⟨Nat.le_of_ble_eq_true rfl, Nat.le_of_ble_eq_true rfl⟩) rfl hl.1 rfl (Nat.le_of_ble_eq_true rfl) dX8_dream_18 ⟨Nat.zero_le _, Nat.zero_le _⟩ (fun r7 H locs f7 hP1 hS1 => ?_)
      replace hP := hP1
      replace hS := hS1
      clear hP1 hS1
      refine lv_if_ne (tgt := 30) hx hb dX8_dream_21 (by decide) (fun c8 => ?_) (fun c8 => ?_)
      · have c8 := zz_neT c8
        refine lv_aload_n hx hb dX8_dream_30 rfl (lv_at hl 0 rfl) ?_
        refine zz_getr hx hb hts hi8 hown hK hP (g0.1) rfl 0 (by decide) (hts (.fieldLink RX8 10 "NoonLaw" "realm" "LNoonLaw$Realm;") (List.mem_cons_of_mem _ bm_16)) rfl rfl dX8_dream_31 ?_
        refine lv_iload_n hx hb dX8_dream_34 rfl (lv_at hl 1 rfl) ?_
        refine lv_iload_n hx hb dX8_dream_35 rfl (lv_at hl 2 rfl) ?_
        refine lv_iload_n hx hb dX8_dream_36 rfl (lv_at hl 3 rfl) ?_
        refine zz_callVi (As := [.int km, .int mb, .int day]) (rest := []) ⟨hx, hb, hml, hown, hts⟩ hK hP hS (c_X2_addDream l E σ (h0 + 1) km mb day (g0.2.1) (by exact hd) (by first | omega | exact ht | (rw [t0]; omega) | (rw [t1]; omega) | (rw [t2]; omega) | (rw [t3]; omega) | (intro j hj; rw [(hC _ _ (by first | (dsimp only; omega) | omega))]; exact ht j hj))) (cwV 3 hts gX8_dream_X2_addDream rfl rfl rfl (by decide +kernel) ⟨Nat.le_of_ble_eq_true rfl, Nat.le_of_ble_eq_true rfl⟩) (g0.2.1.1) rfl rfl hl.1 rfl (Nat.le_of_ble_eq_true rfl) dX8_dream_37 ⟨Nat.zero_le _, Nat.zero_le _⟩ (fun r9 σ9 H locs q9 hP1 hS1 => ?_)
        replace hP := hP1
        replace hS := hS1
        clear hP1 hS1
        try dsimp only at q9
        obtain ⟨w9, f9⟩ := q9
        replace hC := hC.tr (w9.mono (dS15_3 h0))
        replace t0 : σ9 (h0 + 1) 0 = σ (h0 + 1) 0 := (w9 (h0 + 1) 0 (dS15_4 h0)).trans t0
        replace t1 : σ9 (h0 + 1) 1 = σ (h0 + 1) 1 := (w9 (h0 + 1) 1 (dS15_5 h0)).trans t1
        replace t2 : σ9 (h0 + 1) 4 = σ9 (h0 + 1) 4 := rfl
        replace t3 : σ9 (h0 + 1) 6 = σ (h0 + 1) 6 := (w9 (h0 + 1) 6 (dS15_6 h0)).trans t3
        replace t4 : σ9 (h0 + 1) 9 = σ (h0 + 1) 9 := (w9 (h0 + 1) 9 (dS15_7 h0)).trans t4
        replace t5 : σ9 (h0 + 1) 11 = σ (h0 + 1) 11 := (w9 (h0 + 1) 11 (dS15_8 h0)).trans t5
        replace t6 : σ9 (h0 + 1) 2 = σ (h0 + 1) 2 := (w9 (h0 + 1) 2 (dS15_9 h0)).trans t6
        refine lv_istore (lv' := [(4, .int r9), (0, .ref h0), (1, .int km), (2, .int mb), (3, .int day)]) hx hb dX8_dream_40 hl (by decide) rfl (fun ls hl => ?_)
        refine lv_iload hx hb dX8_dream_42 (lv_at hl 0 rfl) ?_
        refine lv_if_ge (tgt := 55) hx hb dX8_dream_44 (by decide) (fun c10 => ?_) (fun c10 => ?_)
        · have c10 := zz_leT c10
          refine lv_iload hx hb dX8_dream_55 (lv_at hl 0 rfl) ?_
          have fz := f9.resolve_left (fun q => by omega)
          have hDq : zz_DX σ9 (h0 + 1) = zz_dn (zz_DX σ (h0 + 1)) (σ (h0 + 1) 4).toInt (km.toInt / 10) (km.toInt % 10) (mb.toInt / 10) (mb.toInt % 10) day.toInt := fz.2.2.2
          exact zz_iret hx hb hr hlocks hK hP hS dX8_dream_57 (by exact ⟨hC, (hI.scal (hC.mono (by intro a k h; first | (dsimp only at h ⊢; omega) | omega)) (by rw [t0]; omega) (by rw [t1]; omega) (by rw [t2]; omega) (by rw [t3]; omega) (by rw [t4]; omega) (by rw [t5]; omega) (by rw [hDq]; exact hid.dn (by omega) (by omega) (by omega) (by omega) (by omega))), by rw [t2]; omega, (fun q => absurd q (by omega)), (fun _ => hDq)⟩)
        · have c10 := zz_nleT c10
          refine lv_aload_n hx hb dX8_dream_47 rfl (lv_at hl 1 rfl) ?_
          refine lv_iconst (v := 4) hx hb dX8_dream_48 (by decide) ?_
          refine zz_callVi (As := [.int 4]) (rest := []) ⟨hx, hb, hml, hown, hts⟩ hK hP hS (c_X8_refuse l E σ9 h0 4 g0 (by omega)) (cwV 1 hts gX8_dream_X8_refuse rfl rfl rfl (by decide +kernel) ⟨Nat.le_of_ble_eq_true rfl, Nat.le_of_ble_eq_true rfl⟩) (g0.1) rfl rfl hl.1 rfl (Nat.le_of_ble_eq_true rfl) dX8_dream_49 ⟨Nat.zero_le _, Nat.zero_le _⟩ (fun r11 σ11 H locs q11 hP1 hS1 => ?_)
          replace hP := hP1
          replace hS := hS1
          clear hP1 hS1
          try dsimp only at q11
          obtain ⟨w11, f11⟩ := q11
          replace hC := hC.tr (w11.mono (dS15_1 h0))
          replace t0 : σ11 (h0 + 1) 0 = σ (h0 + 1) 0 := (w11 (h0 + 1) 0 (dS15_2 h0)).trans t0
          replace t1 : σ11 (h0 + 1) 1 = σ (h0 + 1) 1 := (w11 (h0 + 1) 1 (dS15_2 h0)).trans t1
          replace t2 : σ11 (h0 + 1) 4 = σ9 (h0 + 1) 4 := (w11 (h0 + 1) 4 (dS15_2 h0)).trans t2
          replace t3 : σ11 (h0 + 1) 6 = σ (h0 + 1) 6 := (w11 (h0 + 1) 6 (dS15_2 h0)).trans t3
          replace t4 : σ11 (h0 + 1) 9 = σ (h0 + 1) 9 := (w11 (h0 + 1) 9 (dS15_2 h0)).trans t4
          replace t5 : σ11 (h0 + 1) 11 = σ (h0 + 1) 11 := (w11 (h0 + 1) 11 (dS15_2 h0)).trans t5
          replace t6 : σ11 (h0 + 1) 2 = σ (h0 + 1) 2 := (w11 (h0 + 1) 2 (dS15_2 h0)).trans t6
          refine lv_goto (tgt := 57) hx hb dX8_dream_52 (by decide) ?_
          have fz := f9.resolve_right (fun q => by omega)
          have hDq : zz_DX σ11 (h0 + 1) = zz_DX σ (h0 + 1) := by rw [zz_DXk (r := h0 + 1) w11 (by intro j hj k hk; first | (dsimp only; omega) | omega), fz.2.2.2]
          exact zz_iret hx hb hr hlocks hK hP hS dX8_dream_57 (by exact ⟨hC, (hI.scal (hC.mono (by intro a k h; first | (dsimp only at h ⊢; omega) | omega)) (by rw [t0]; omega) (by rw [t1]; omega) (by rw [t2]; omega) (by rw [t3]; omega) (by rw [t4]; omega) (by rw [t5]; omega) (by rw [hDq]; exact hid)), by rw [t2]; omega, (fun _ => hDq), (fun q => absurd q (by omega))⟩)
      · have c8 := zz_eqT c8
        refine lv_aload_n hx hb dX8_dream_24 rfl (lv_at hl 0 rfl) ?_
        refine lv_iconst (v := 1) hx hb dX8_dream_25 (by decide) ?_
        refine zz_callVi (As := [.int 1]) (rest := []) ⟨hx, hb, hml, hown, hts⟩ hK hP hS (c_X8_refuse l E σ h0 1 g0 (by omega)) (cwV 1 hts gX8_dream_X8_refuse rfl rfl rfl (by decide +kernel) ⟨Nat.le_of_ble_eq_true rfl, Nat.le_of_ble_eq_true rfl⟩) (g0.1) rfl rfl hl.1 rfl (Nat.le_of_ble_eq_true rfl) dX8_dream_26 ⟨Nat.zero_le _, Nat.zero_le _⟩ (fun r12 σ12 H locs q12 hP1 hS1 => ?_)
        replace hP := hP1
        replace hS := hS1
        clear hP1 hS1
        try dsimp only at q12
        obtain ⟨w12, f12⟩ := q12
        replace hC := hC.tr (w12.mono (dS15_1 h0))
        replace t0 : σ12 (h0 + 1) 0 = σ (h0 + 1) 0 := (w12 (h0 + 1) 0 (dS15_2 h0)).trans t0
        replace t1 : σ12 (h0 + 1) 1 = σ (h0 + 1) 1 := (w12 (h0 + 1) 1 (dS15_2 h0)).trans t1
        replace t2 : σ12 (h0 + 1) 4 = σ (h0 + 1) 4 := (w12 (h0 + 1) 4 (dS15_2 h0)).trans t2
        replace t3 : σ12 (h0 + 1) 6 = σ (h0 + 1) 6 := (w12 (h0 + 1) 6 (dS15_2 h0)).trans t3
        replace t4 : σ12 (h0 + 1) 9 = σ (h0 + 1) 9 := (w12 (h0 + 1) 9 (dS15_2 h0)).trans t4
        replace t5 : σ12 (h0 + 1) 11 = σ (h0 + 1) 11 := (w12 (h0 + 1) 11 (dS15_2 h0)).trans t5
        replace t6 : σ12 (h0 + 1) 2 = σ (h0 + 1) 2 := (w12 (h0 + 1) 2 (dS15_2 h0)).trans t6
        have hDq : zz_DX σ12 (h0 + 1) = zz_DX σ (h0 + 1) := by rw [zz_DXk (r := h0 + 1) w12 (by intro j hj k hk; first | (dsimp only; omega) | omega)]
        exact zz_iret hx hb hr hlocks hK hP hS dX8_dream_29 (by exact ⟨hC, (hI.scal (hC.mono (by intro a k h; first | (dsimp only at h ⊢; omega) | omega)) (by rw [t0]; omega) (by rw [t1]; omega) (by rw [t2]; omega) (by rw [t3]; omega) (by rw [t4]; omega) (by rw [t5]; omega) (by rw [hDq]; exact hid)), by rw [t2]; omega, (fun _ => hDq), (fun q => absurd q (by omega))⟩)
theorem gX8_person_X8_within : GoodIn wzX8_person (va_wsS RX8 64 yX8_within wzX8_within) := wz_co bm_112 (wz_co bm_113 (wz_co bm_2 (wz_in bm_114)))
theorem gX8_person_X8_refuse : GoodIn wzX8_person (wsV RX8 68 RX8 yX8_refuse wzX8_refuse) := wz_co bm_118 (wz_co bm_119 (wz_co bm_120 (wz_co bm_2 (wz_in bm_121))))
theorem gX8_person_X2_addPerson : GoodIn wzX8_person (wsV RX8 121 RX2 yX2_addPerson wzX2_addPerson) := wz_co bm_310 (wz_co bm_311 (wz_co bm_312 (wz_co bm_15 (wz_in bm_313))))
theorem dS15_10 (x0 : Nat) : ∀ a k : Nat, ((a = (x0 + 1) ∧ k = 6) ∨ ((x0 + 1) + 15 ≤ a ∧ a < (x0 + 1) + 21)) → (a = x0 + 24 ∨ a = x0 + 27 ∨ (x0 + 58 ≤ a ∧ a ≤ x0 + 67) ∨ (a = x0 + 1 ∧ k = 6) ∨ (x0 + 16 ≤ a ∧ a < x0 + 22)) := by intro a k h; omega
theorem dS15_11 (x0 : Nat) : ¬ (((x0 + 1) = (x0 + 1) ∧ (0) = 6) ∨ ((x0 + 1) + 15 ≤ (x0 + 1) ∧ (x0 + 1) < (x0 + 1) + 21)) := by omega
theorem dS15_12 (x0 : Nat) : ¬ (((x0 + 1) = (x0 + 1) ∧ (1) = 6) ∨ ((x0 + 1) + 15 ≤ (x0 + 1) ∧ (x0 + 1) < (x0 + 1) + 21)) := by omega
theorem dS15_13 (x0 : Nat) : ¬ (((x0 + 1) = (x0 + 1) ∧ (4) = 6) ∨ ((x0 + 1) + 15 ≤ (x0 + 1) ∧ (x0 + 1) < (x0 + 1) + 21)) := by omega
theorem dS15_14 (x0 : Nat) : ¬ (((x0 + 1) = (x0 + 1) ∧ (9) = 6) ∨ ((x0 + 1) + 15 ≤ (x0 + 1) ∧ (x0 + 1) < (x0 + 1) + 21)) := by omega
theorem dS15_15 (x0 : Nat) : ¬ (((x0 + 1) = (x0 + 1) ∧ (11) = 6) ∨ ((x0 + 1) + 15 ≤ (x0 + 1) ∧ (x0 + 1) < (x0 + 1) + 21)) := by omega
theorem dS15_16 (x0 : Nat) : ¬ (((x0 + 1) = (x0 + 1) ∧ (2) = 6) ∨ ((x0 + 1) + 15 ≤ (x0 + 1) ∧ (x0 + 1) < (x0 + 1) + 21)) := by omega
theorem dS15_17 (x0 : Nat) : ∀ a k : Nat, (a = (x0) + 65) → (a = x0 + 24 ∨ a = x0 + 27 ∨ (x0 + 58 ≤ a ∧ a ≤ x0 + 67) ∨ (a = x0 + 1 ∧ k = 6) ∨ (x0 + 16 ≤ a ∧ a < x0 + 22)) := by intro a k h; omega
set_option maxHeartbeats 4000000 in
set_option maxRecDepth 100000 in
theorem c_X8_person (l : Launch) (E : zz_E) (σ : zz_S) (h0 : Nat) (wo : Int32) (g0 : zz_L E h0) (hI : zz_IX σ h0) : Met l yX8_person wzX8_person ({ frames := 1, cells := 0, slots := 0, locals := 22 }) (va_Pc [.ref h0, .int wo] (zz_B E σ)) (va_Qi (fun r σ1 => zz_ch (fun a k => a = h0 + 24 ∨ a = h0 + 27 ∨ (h0 + 58 ≤ a ∧ a ≤ h0 + 67) ∨ (a = h0 + 1 ∧ k = 6) ∨ (h0 + 16 ≤ a ∧ a < h0 + 22)) σ σ1 ∧ (zz_IX σ1 h0 ∧ ((((wo.toInt < 0 ∨ 1023 < wo.toInt) ∧ r.toInt = -1000000001 ∧ (σ1 (h0 + 1) 6).toInt = (σ (h0 + 1) 6).toInt) ∨ (0 ≤ wo.toInt ∧ wo.toInt ≤ 1023 ∧ (σ (h0 + 1) 6).toInt = 6 ∧ r.toInt = -1000000004 ∧ (σ1 (h0 + 1) 6).toInt = 6) ∨ (0 ≤ wo.toInt ∧ wo.toInt ≤ 1023 ∧ (σ (h0 + 1) 6).toInt < 6 ∧ r.toInt = (σ (h0 + 1) 6).toInt ∧ (σ1 (h0 + 1) 6).toInt = (σ (h0 + 1) 6).toInt + 1)) ∧ (r.toInt < 0 → zz_PX 0 σ1 (h0 + 1) = zz_PX 0 σ (h0 + 1) ∧ zz_PX 1 σ1 (h0 + 1) = zz_PX 1 σ (h0 + 1)) ∧ (0 ≤ r.toInt → zz_PX 0 σ1 (h0 + 1) = zz_wn (zz_PX 0 σ (h0 + 1)) (σ (h0 + 1) 6).toInt wo.toInt ∧ zz_PX 1 σ1 (h0 + 1) = zz_wn (zz_PX 1 σ (h0 + 1)) (σ (h0 + 1) 6).toInt 0)))) (zz_B E) (zz_A E)) 0 0 (zz_A E) := by
  refine zz_met (cc := cX8_person) (maxL := 3) (ret := (some .int)) (by decide) rfl (Nat.le_of_ble_eq_true rfl) ?_
  intro p e s m args below meth c ls hx hb hr hts hown hlocks hml hK hP hS hl
  have hl : lv_has ls 3 [(0, .ref h0), (1, .int wo)] := hl
  have hown : s.vm.findClass RX8 = some m.cls := hown
  have hi8 : ∀ w ∈ wsX80, w ∈ wzX8_person := fun w h => List.mem_cons_of_mem _ (hbw8 w h)
  have k_0 : (0 : Int32).toInt = 0 := by decide +kernel
  have k_1 : (1 : Int32).toInt = 1 := by decide +kernel
  have k_4 : (4 : Int32).toInt = 4 := by decide +kernel
  have k_1023 : (1023 : Int32).toInt = 1023 := by decide +kernel
  replace t0 : σ (h0 + 1) 0 = σ (h0 + 1) 0 := rfl
  replace t1 : σ (h0 + 1) 1 = σ (h0 + 1) 1 := rfl
  replace t2 : σ (h0 + 1) 4 = σ (h0 + 1) 4 := rfl
  replace t3 : σ (h0 + 1) 6 = σ (h0 + 1) 6 := rfl
  replace t4 : σ (h0 + 1) 9 = σ (h0 + 1) 9 := rfl
  replace t5 : σ (h0 + 1) 11 = σ (h0 + 1) 11 := rfl
  replace t6 : σ (h0 + 1) 2 = σ (h0 + 1) 2 := rfl
  have hC : zz_ch (fun a k => a = h0 + 24 ∨ a = h0 + 27 ∨ (h0 + 58 ≤ a ∧ a ≤ h0 + 67) ∨ (a = h0 + 1 ∧ k = 6) ∨ (h0 + 16 ≤ a ∧ a < h0 + 22)) σ σ := zz_ch.rf σ
  obtain ⟨⟨hh, hsl, hd, hp, htc, hwc, ht, hft, hst, hid⟩, hkI, hsh, hspk⟩ := id hI
  refine lv_iload_n hx hb dX8_person_0 rfl (lv_at hl 1 rfl) ?_
  refine lv_iconst (v := 0) hx hb dX8_person_1 (by decide) ?_
  refine lv_sipush (v := 1023) hx hb dX8_person_2 (by decide) ?_
  refine zz_callSp (As := [.int wo, .int 0, .int 1023]) (rest := []) ⟨hx, hb, hml, hown, hts⟩ hK hP hS (c_X8_within l E σ wo 0 1023) (va_cwS 3 hts gX8_person_X8_within rfl rfl rfl (by decide +kernel) ⟨Nat.le_of_ble_eq_true rfl, Nat.le_of_ble_eq_true rfl⟩) rfl hl.1 rfl (Nat.le_of_ble_eq_true rfl) dX8_person_5 ⟨Nat.zero_le _, Nat.zero_le _⟩ (fun r1 H locs f1 hP1 hS1 => ?_)
  replace hP := hP1
  replace hS := hS1
  clear hP1 hS1
  refine lv_if_ne (tgt := 17) hx hb dX8_person_8 (by decide) (fun c2 => ?_) (fun c2 => ?_)
  · have c2 := zz_neT c2
    refine lv_aload_n hx hb dX8_person_17 rfl (lv_at hl 0 rfl) ?_
    refine zz_getr hx hb hts hi8 hown hK hP (g0.1) rfl 0 (by decide) (hts (.fieldLink RX8 10 "NoonLaw" "realm" "LNoonLaw$Realm;") (List.mem_cons_of_mem _ bm_16)) rfl rfl dX8_person_18 ?_
    refine lv_iload_n hx hb dX8_person_21 rfl (lv_at hl 1 rfl) ?_
    refine zz_callVi (As := [.int wo]) (rest := []) ⟨hx, hb, hml, hown, hts⟩ hK hP hS (c_X2_addPerson l E σ (h0 + 1) wo (g0.2.1) (by exact hp)) (cwV 1 hts gX8_person_X2_addPerson rfl rfl rfl (by decide +kernel) ⟨Nat.le_of_ble_eq_true rfl, Nat.le_of_ble_eq_true rfl⟩) (g0.2.1.1) rfl rfl hl.1 rfl (Nat.le_of_ble_eq_true rfl) dX8_person_22 ⟨Nat.zero_le _, Nat.zero_le _⟩ (fun r3 σ3 H locs q3 hP1 hS1 => ?_)
    replace hP := hP1
    replace hS := hS1
    clear hP1 hS1
    try dsimp only at q3
    obtain ⟨w3, f3⟩ := q3
    replace hC := hC.tr (w3.mono (dS15_10 h0))
    replace t0 : σ3 (h0 + 1) 0 = σ (h0 + 1) 0 := (w3 (h0 + 1) 0 (dS15_11 h0)).trans t0
    replace t1 : σ3 (h0 + 1) 1 = σ (h0 + 1) 1 := (w3 (h0 + 1) 1 (dS15_12 h0)).trans t1
    replace t2 : σ3 (h0 + 1) 4 = σ (h0 + 1) 4 := (w3 (h0 + 1) 4 (dS15_13 h0)).trans t2
    replace t3 : σ3 (h0 + 1) 6 = σ3 (h0 + 1) 6 := rfl
    replace t4 : σ3 (h0 + 1) 9 = σ (h0 + 1) 9 := (w3 (h0 + 1) 9 (dS15_14 h0)).trans t4
    replace t5 : σ3 (h0 + 1) 11 = σ (h0 + 1) 11 := (w3 (h0 + 1) 11 (dS15_15 h0)).trans t5
    replace t6 : σ3 (h0 + 1) 2 = σ (h0 + 1) 2 := (w3 (h0 + 1) 2 (dS15_16 h0)).trans t6
    refine lv_istore_n (lv' := [(2, .int r3), (0, .ref h0), (1, .int wo)]) hx hb dX8_person_25 rfl hl (by decide) rfl (fun ls hl => ?_)
    refine lv_iload_n hx hb dX8_person_26 rfl (lv_at hl 0 rfl) ?_
    refine lv_if_ge (tgt := 38) hx hb dX8_person_27 (by decide) (fun c4 => ?_) (fun c4 => ?_)
    · have c4 := zz_leT c4
      refine lv_iload_n hx hb dX8_person_38 rfl (lv_at hl 0 rfl) ?_
      have fz := f3.resolve_left (fun q => by omega)
      have hPq := fz.2.2.2.1
      have hFq := fz.2.2.2.2
      exact zz_iret hx hb hr hlocks hK hP hS dX8_person_39 (by exact ⟨hC, (hI.scal (hC.mono (by intro a k h; first | (dsimp only at h ⊢; omega) | omega)) (by rw [t0]; omega) (by rw [t1]; omega) (by rw [t2]; omega) (by rw [t3]; omega) (by rw [t4]; omega) (by rw [t5]; omega) (by rw [zz_DXk (r := (h0 + 1)) hC (by intro j hj k hk; first | (dsimp only; omega) | omega)]; exact hid)), by rw [t3]; omega, (fun q => absurd q (by omega)), (fun _ => ⟨hPq, hFq⟩)⟩)
    · have c4 := zz_nleT c4
      refine lv_aload_n hx hb dX8_person_30 rfl (lv_at hl 1 rfl) ?_
      refine lv_iconst (v := 4) hx hb dX8_person_31 (by decide) ?_
      refine zz_callVi (As := [.int 4]) (rest := []) ⟨hx, hb, hml, hown, hts⟩ hK hP hS (c_X8_refuse l E σ3 h0 4 g0 (by omega)) (cwV 1 hts gX8_person_X8_refuse rfl rfl rfl (by decide +kernel) ⟨Nat.le_of_ble_eq_true rfl, Nat.le_of_ble_eq_true rfl⟩) (g0.1) rfl rfl hl.1 rfl (Nat.le_of_ble_eq_true rfl) dX8_person_32 ⟨Nat.zero_le _, Nat.zero_le _⟩ (fun r5 σ5 H locs q5 hP1 hS1 => ?_)
      replace hP := hP1
      replace hS := hS1
      clear hP1 hS1
      try dsimp only at q5
      obtain ⟨w5, f5⟩ := q5
      replace hC := hC.tr (w5.mono (dS15_17 h0))
      replace t0 : σ5 (h0 + 1) 0 = σ (h0 + 1) 0 := (w5 (h0 + 1) 0 (dS15_2 h0)).trans t0
      replace t1 : σ5 (h0 + 1) 1 = σ (h0 + 1) 1 := (w5 (h0 + 1) 1 (dS15_2 h0)).trans t1
      replace t2 : σ5 (h0 + 1) 4 = σ (h0 + 1) 4 := (w5 (h0 + 1) 4 (dS15_2 h0)).trans t2
      replace t3 : σ5 (h0 + 1) 6 = σ3 (h0 + 1) 6 := (w5 (h0 + 1) 6 (dS15_2 h0)).trans t3
      replace t4 : σ5 (h0 + 1) 9 = σ (h0 + 1) 9 := (w5 (h0 + 1) 9 (dS15_2 h0)).trans t4
      replace t5 : σ5 (h0 + 1) 11 = σ (h0 + 1) 11 := (w5 (h0 + 1) 11 (dS15_2 h0)).trans t5
      replace t6 : σ5 (h0 + 1) 2 = σ (h0 + 1) 2 := (w5 (h0 + 1) 2 (dS15_2 h0)).trans t6
      refine lv_goto (tgt := 39) hx hb dX8_person_35 (by decide) ?_
      have fz := f3.resolve_right (fun q => by omega)
      have hPq : zz_PX 0 σ5 (h0 + 1) = zz_PX 0 σ (h0 + 1) := by rw [zz_PXk (f := 0) (r := h0 + 1) w5 (by intro j hj; first | (dsimp only; omega) | omega), fz.2.2.2.1]
      have hFq : zz_PX 1 σ5 (h0 + 1) = zz_PX 1 σ (h0 + 1) := by rw [zz_PXk (f := 1) (r := h0 + 1) w5 (by intro j hj; first | (dsimp only; omega) | omega), fz.2.2.2.2]
      exact zz_iret hx hb hr hlocks hK hP hS dX8_person_39 (by exact ⟨hC, (hI.scal (hC.mono (by intro a k h; first | (dsimp only at h ⊢; omega) | omega)) (by rw [t0]; omega) (by rw [t1]; omega) (by rw [t2]; omega) (by rw [t3]; omega) (by rw [t4]; omega) (by rw [t5]; omega) (by rw [zz_DXk (r := (h0 + 1)) hC (by intro j hj k hk; first | (dsimp only; omega) | omega)]; exact hid)), by rw [t3]; omega, (fun _ => ⟨hPq, hFq⟩), (fun q => absurd q (by omega))⟩)
  · have c2 := zz_eqT c2
    refine lv_aload_n hx hb dX8_person_11 rfl (lv_at hl 0 rfl) ?_
    refine lv_iconst (v := 1) hx hb dX8_person_12 (by decide) ?_
    refine zz_callVi (As := [.int 1]) (rest := []) ⟨hx, hb, hml, hown, hts⟩ hK hP hS (c_X8_refuse l E σ h0 1 g0 (by omega)) (cwV 1 hts gX8_person_X8_refuse rfl rfl rfl (by decide +kernel) ⟨Nat.le_of_ble_eq_true rfl, Nat.le_of_ble_eq_true rfl⟩) (g0.1) rfl rfl hl.1 rfl (Nat.le_of_ble_eq_true rfl) dX8_person_13 ⟨Nat.zero_le _, Nat.zero_le _⟩ (fun r6 σ6 H locs q6 hP1 hS1 => ?_)
    replace hP := hP1
    replace hS := hS1
    clear hP1 hS1
    try dsimp only at q6
    obtain ⟨w6, f6⟩ := q6
    replace hC := hC.tr (w6.mono (dS15_17 h0))
    replace t0 : σ6 (h0 + 1) 0 = σ (h0 + 1) 0 := (w6 (h0 + 1) 0 (dS15_2 h0)).trans t0
    replace t1 : σ6 (h0 + 1) 1 = σ (h0 + 1) 1 := (w6 (h0 + 1) 1 (dS15_2 h0)).trans t1
    replace t2 : σ6 (h0 + 1) 4 = σ (h0 + 1) 4 := (w6 (h0 + 1) 4 (dS15_2 h0)).trans t2
    replace t3 : σ6 (h0 + 1) 6 = σ (h0 + 1) 6 := (w6 (h0 + 1) 6 (dS15_2 h0)).trans t3
    replace t4 : σ6 (h0 + 1) 9 = σ (h0 + 1) 9 := (w6 (h0 + 1) 9 (dS15_2 h0)).trans t4
    replace t5 : σ6 (h0 + 1) 11 = σ (h0 + 1) 11 := (w6 (h0 + 1) 11 (dS15_2 h0)).trans t5
    replace t6 : σ6 (h0 + 1) 2 = σ (h0 + 1) 2 := (w6 (h0 + 1) 2 (dS15_2 h0)).trans t6
    have hPq : zz_PX 0 σ6 (h0 + 1) = zz_PX 0 σ (h0 + 1) := by rw [zz_PXk (f := 0) (r := h0 + 1) w6 (by intro j hj; first | (dsimp only; omega) | omega)]
    have hFq : zz_PX 1 σ6 (h0 + 1) = zz_PX 1 σ (h0 + 1) := by rw [zz_PXk (f := 1) (r := h0 + 1) w6 (by intro j hj; first | (dsimp only; omega) | omega)]
    exact zz_iret hx hb hr hlocks hK hP hS dX8_person_16 (by exact ⟨hC, (hI.scal (hC.mono (by intro a k h; first | (dsimp only at h ⊢; omega) | omega)) (by rw [t0]; omega) (by rw [t1]; omega) (by rw [t2]; omega) (by rw [t3]; omega) (by rw [t4]; omega) (by rw [t5]; omega) (by rw [zz_DXk (r := (h0 + 1)) hC (by intro j hj k hk; first | (dsimp only; omega) | omega)]; exact hid)), by rw [t3]; omega, (fun _ => ⟨hPq, hFq⟩), (fun q => absurd q (by omega))⟩)
theorem gX8_clock_X8_within : GoodIn wzX8_clock (va_wsS RX8 64 yX8_within wzX8_within) := wz_co bm_112 (wz_co bm_113 (wz_co bm_2 (wz_in bm_114)))
theorem gX8_clock_X8_refuse : GoodIn wzX8_clock (wsV RX8 68 RX8 yX8_refuse wzX8_refuse) := wz_co bm_118 (wz_co bm_119 (wz_co bm_120 (wz_co bm_2 (wz_in bm_121))))
theorem dS15_18 (x0 : Nat) : ∀ a k : Nat, (a = (x0) + 65) → (a = x0 + 24 ∨ a = x0 + 27 ∨ (x0 + 58 ≤ a ∧ a ≤ x0 + 67) ∨ (a = x0 + 1 ∧ (k = 0 ∨ k = 1))) := by intro a k h; omega
theorem dS15_19 (x0 : Nat) : (x0 + 1) = x0 + 24 ∨ (x0 + 1) = x0 + 27 ∨ (x0 + 58 ≤ (x0 + 1) ∧ (x0 + 1) ≤ x0 + 67) ∨ ((x0 + 1) = x0 + 1 ∧ ((1) = 0 ∨ (1) = 1)) := by omega
theorem dS15_20 (x0 : Nat) : (x0 + 1) = x0 + 24 ∨ (x0 + 1) = x0 + 27 ∨ (x0 + 58 ≤ (x0 + 1) ∧ (x0 + 1) ≤ x0 + 67) ∨ ((x0 + 1) = x0 + 1 ∧ ((0) = 0 ∨ (0) = 1)) := by omega
set_option maxHeartbeats 4000000 in
set_option maxRecDepth 100000 in
theorem c_X8_clock (l : Launch) (E : zz_E) (σ : zz_S) (h0 : Nat) (what : Int32) (v : Int32) (g0 : zz_L E h0) (hI : zz_IX σ h0) : Met l yX8_clock wzX8_clock ({ frames := 1, cells := 0, slots := 0, locals := 22 }) (va_Pc [.ref h0, .int what, .int v] (zz_B E σ)) (va_Qi (fun r σ1 => zz_ch (fun a k => a = h0 + 24 ∨ a = h0 + 27 ∨ (h0 + 58 ≤ a ∧ a ≤ h0 + 67) ∨ (a = h0 + 1 ∧ (k = 0 ∨ k = 1))) σ σ1 ∧ (zz_IX σ1 h0 ∧ ((what.toInt = 0 ∧ 0 ≤ v.toInt ∧ v.toInt ≤ 9999 ∧ r.toInt = (σ (h0 + 1) 0).toInt ∧ (σ1 (h0 + 1) 0).toInt = v.toInt ∧ (σ1 (h0 + 1) 1).toInt = (σ (h0 + 1) 1).toInt) ∨ (what.toInt = 1 ∧ 13 ≤ v.toInt ∧ v.toInt ≤ 24 ∧ r.toInt = (σ (h0 + 1) 1).toInt ∧ (σ1 (h0 + 1) 1).toInt = v.toInt ∧ (σ1 (h0 + 1) 0).toInt = (σ (h0 + 1) 0).toInt) ∨ (¬ (what.toInt = 0 ∧ 0 ≤ v.toInt ∧ v.toInt ≤ 9999) ∧ ¬ (what.toInt = 1 ∧ 13 ≤ v.toInt ∧ v.toInt ≤ 24) ∧ r.toInt = -1000000001 ∧ (σ1 (h0 + 1) 0).toInt = (σ (h0 + 1) 0).toInt ∧ (σ1 (h0 + 1) 1).toInt = (σ (h0 + 1) 1).toInt)))) (zz_B E) (zz_A E)) 0 0 (zz_A E) := by
  refine zz_met (cc := cX8_clock) (maxL := 4) (ret := (some .int)) (by decide) rfl (Nat.le_of_ble_eq_true rfl) ?_
  intro p e s m args below meth c ls hx hb hr hts hown hlocks hml hK hP hS hl
  have hl : lv_has ls 4 [(0, .ref h0), (1, .int what), (2, .int v)] := hl
  have hown : s.vm.findClass RX8 = some m.cls := hown
  have hi2 : ∀ w ∈ wsX20, w ∈ wzX8_clock := fun w h => List.mem_cons_of_mem _ (hbw2 w h)
  have hi8 : ∀ w ∈ wsX80, w ∈ wzX8_clock := fun w h => List.mem_cons_of_mem _ (hbw8 w h)
  have k_0 : (0 : Int32).toInt = 0 := by decide +kernel
  have k_1 : (1 : Int32).toInt = 1 := by decide +kernel
  have k_13 : (13 : Int32).toInt = 13 := by decide +kernel
  have k_24 : (24 : Int32).toInt = 24 := by decide +kernel
  have k_9999 : (9999 : Int32).toInt = 9999 := by decide +kernel
  replace t0 : σ (h0 + 1) 0 = σ (h0 + 1) 0 := rfl
  replace t1 : σ (h0 + 1) 1 = σ (h0 + 1) 1 := rfl
  replace t2 : σ (h0 + 1) 4 = σ (h0 + 1) 4 := rfl
  replace t3 : σ (h0 + 1) 6 = σ (h0 + 1) 6 := rfl
  replace t4 : σ (h0 + 1) 9 = σ (h0 + 1) 9 := rfl
  replace t5 : σ (h0 + 1) 11 = σ (h0 + 1) 11 := rfl
  replace t6 : σ (h0 + 1) 2 = σ (h0 + 1) 2 := rfl
  have hC : zz_ch (fun a k => a = h0 + 24 ∨ a = h0 + 27 ∨ (h0 + 58 ≤ a ∧ a ≤ h0 + 67) ∨ (a = h0 + 1 ∧ (k = 0 ∨ k = 1))) σ σ := zz_ch.rf σ
  obtain ⟨⟨hh, hsl, hd, hp, htc, hwc, ht, hft, hst, hid⟩, hkI, hsh, hspk⟩ := id hI
  refine lv_iload_n hx hb dX8_clock_0 rfl (lv_at hl 1 rfl) ?_
  refine lv_if_ne (tgt := 34) hx hb dX8_clock_1 (by decide) (fun c1 => ?_) (fun c1 => ?_)
  · have c1 := zz_neT c1
    refine lv_iload_n hx hb dX8_clock_34 rfl (lv_at hl 1 rfl) ?_
    refine lv_iconst (v := 1) hx hb dX8_clock_35 (by decide) ?_
    refine lv_icmp_ne (tgt := 69) hx hb dX8_clock_36 (by decide) (fun c2 => ?_) (fun c2 => ?_)
    · have c2 := zz_neT c2
      refine lv_aload_n hx hb dX8_clock_69 rfl (lv_at hl 0 rfl) ?_
      refine lv_iconst (v := 1) hx hb dX8_clock_70 (by decide) ?_
      refine zz_callVi (As := [.int 1]) (rest := []) ⟨hx, hb, hml, hown, hts⟩ hK hP hS (c_X8_refuse l E σ h0 1 g0 (by omega)) (cwV 1 hts gX8_clock_X8_refuse rfl rfl rfl (by decide +kernel) ⟨Nat.le_of_ble_eq_true rfl, Nat.le_of_ble_eq_true rfl⟩) (g0.1) rfl rfl hl.1 rfl (Nat.le_of_ble_eq_true rfl) dX8_clock_71 ⟨Nat.zero_le _, Nat.zero_le _⟩ (fun r3 σ3 H locs q3 hP1 hS1 => ?_)
      replace hP := hP1
      replace hS := hS1
      clear hP1 hS1
      try dsimp only at q3
      obtain ⟨w3, f3⟩ := q3
      replace hC := hC.tr (w3.mono (dS15_18 h0))
      replace t0 : σ3 (h0 + 1) 0 = σ (h0 + 1) 0 := (w3 (h0 + 1) 0 (dS15_2 h0)).trans t0
      replace t1 : σ3 (h0 + 1) 1 = σ (h0 + 1) 1 := (w3 (h0 + 1) 1 (dS15_2 h0)).trans t1
      replace t2 : σ3 (h0 + 1) 4 = σ (h0 + 1) 4 := (w3 (h0 + 1) 4 (dS15_2 h0)).trans t2
      replace t3 : σ3 (h0 + 1) 6 = σ (h0 + 1) 6 := (w3 (h0 + 1) 6 (dS15_2 h0)).trans t3
      replace t4 : σ3 (h0 + 1) 9 = σ (h0 + 1) 9 := (w3 (h0 + 1) 9 (dS15_2 h0)).trans t4
      replace t5 : σ3 (h0 + 1) 11 = σ (h0 + 1) 11 := (w3 (h0 + 1) 11 (dS15_2 h0)).trans t5
      replace t6 : σ3 (h0 + 1) 2 = σ (h0 + 1) 2 := (w3 (h0 + 1) 2 (dS15_2 h0)).trans t6
      refine lv_istore_n (lv' := [(3, .int r3), (0, .ref h0), (1, .int what), (2, .int v)]) hx hb dX8_clock_74 rfl hl (by decide) rfl (fun ls hl => ?_)
      refine lv_iload_n hx hb dX8_clock_75 rfl (lv_at hl 0 rfl) ?_
      exact zz_iret hx hb hr hlocks hK hP hS dX8_clock_76 (by exact ⟨hC, (hI.scal (hC.mono (by intro a k h; first | (dsimp only at h ⊢; omega) | omega)) (by rw [t0]; omega) (by rw [t1]; omega) (by rw [t2]; omega) (by rw [t3]; omega) (by rw [t4]; omega) (by rw [t5]; omega) (by rw [zz_DXk (r := (h0 + 1)) hC (by intro j hj k hk; first | (dsimp only; omega) | omega)]; exact hid)), by rw [t0, t1]; omega⟩)
    · have c2 := zz_eqT c2
      refine lv_iload_n hx hb dX8_clock_39 rfl (lv_at hl 2 rfl) ?_
      refine lv_bipush (v := 13) hx hb dX8_clock_40 (by decide) ?_
      refine lv_bipush (v := 24) hx hb dX8_clock_42 (by decide) ?_
      refine zz_callSp (As := [.int v, .int 13, .int 24]) (rest := []) ⟨hx, hb, hml, hown, hts⟩ hK hP hS (c_X8_within l E σ v 13 24) (va_cwS 3 hts gX8_clock_X8_within rfl rfl rfl (by decide +kernel) ⟨Nat.le_of_ble_eq_true rfl, Nat.le_of_ble_eq_true rfl⟩) rfl hl.1 rfl (Nat.le_of_ble_eq_true rfl) dX8_clock_44 ⟨Nat.zero_le _, Nat.zero_le _⟩ (fun r4 H locs f4 hP1 hS1 => ?_)
      replace hP := hP1
      replace hS := hS1
      clear hP1 hS1
      refine lv_if_eq (tgt := 69) hx hb dX8_clock_47 (by decide) (fun c5 => ?_) (fun c5 => ?_)
      · have c5 := zz_eqT c5
        refine lv_aload_n hx hb dX8_clock_69 rfl (lv_at hl 0 rfl) ?_
        refine lv_iconst (v := 1) hx hb dX8_clock_70 (by decide) ?_
        refine zz_callVi (As := [.int 1]) (rest := []) ⟨hx, hb, hml, hown, hts⟩ hK hP hS (c_X8_refuse l E σ h0 1 g0 (by omega)) (cwV 1 hts gX8_clock_X8_refuse rfl rfl rfl (by decide +kernel) ⟨Nat.le_of_ble_eq_true rfl, Nat.le_of_ble_eq_true rfl⟩) (g0.1) rfl rfl hl.1 rfl (Nat.le_of_ble_eq_true rfl) dX8_clock_71 ⟨Nat.zero_le _, Nat.zero_le _⟩ (fun r6 σ6 H locs q6 hP1 hS1 => ?_)
        replace hP := hP1
        replace hS := hS1
        clear hP1 hS1
        try dsimp only at q6
        obtain ⟨w6, f6⟩ := q6
        replace hC := hC.tr (w6.mono (dS15_18 h0))
        replace t0 : σ6 (h0 + 1) 0 = σ (h0 + 1) 0 := (w6 (h0 + 1) 0 (dS15_2 h0)).trans t0
        replace t1 : σ6 (h0 + 1) 1 = σ (h0 + 1) 1 := (w6 (h0 + 1) 1 (dS15_2 h0)).trans t1
        replace t2 : σ6 (h0 + 1) 4 = σ (h0 + 1) 4 := (w6 (h0 + 1) 4 (dS15_2 h0)).trans t2
        replace t3 : σ6 (h0 + 1) 6 = σ (h0 + 1) 6 := (w6 (h0 + 1) 6 (dS15_2 h0)).trans t3
        replace t4 : σ6 (h0 + 1) 9 = σ (h0 + 1) 9 := (w6 (h0 + 1) 9 (dS15_2 h0)).trans t4
        replace t5 : σ6 (h0 + 1) 11 = σ (h0 + 1) 11 := (w6 (h0 + 1) 11 (dS15_2 h0)).trans t5
        replace t6 : σ6 (h0 + 1) 2 = σ (h0 + 1) 2 := (w6 (h0 + 1) 2 (dS15_2 h0)).trans t6
        refine lv_istore_n (lv' := [(3, .int r6), (0, .ref h0), (1, .int what), (2, .int v)]) hx hb dX8_clock_74 rfl hl (by decide) rfl (fun ls hl => ?_)
        refine lv_iload_n hx hb dX8_clock_75 rfl (lv_at hl 0 rfl) ?_
        exact zz_iret hx hb hr hlocks hK hP hS dX8_clock_76 (by exact ⟨hC, (hI.scal (hC.mono (by intro a k h; first | (dsimp only at h ⊢; omega) | omega)) (by rw [t0]; omega) (by rw [t1]; omega) (by rw [t2]; omega) (by rw [t3]; omega) (by rw [t4]; omega) (by rw [t5]; omega) (by rw [zz_DXk (r := (h0 + 1)) hC (by intro j hj k hk; first | (dsimp only; omega) | omega)]; exact hid)), by rw [t0, t1]; omega⟩)
      · have c5 := zz_neT c5
        refine lv_aload_n hx hb dX8_clock_50 rfl (lv_at hl 0 rfl) ?_
        refine zz_getr hx hb hts hi8 hown hK hP (g0.1) rfl 0 (by decide) (hts (.fieldLink RX8 10 "NoonLaw" "realm" "LNoonLaw$Realm;") (List.mem_cons_of_mem _ bm_16)) rfl rfl dX8_clock_51 ?_
        refine zz_geti hx hb hts hi2 hown hK hP (g0.2.1.1) rfl 1 (by decide) (hts (.fieldLink RX8 107 "NoonLaw$Realm" "sleep" "I") (List.mem_cons_of_mem _ bm_167)) rfl rfl t1 dX8_clock_54 ?_
        refine lv_istore_n (lv' := [(3, .int (σ (h0 + 1) 1)), (0, .ref h0), (1, .int what), (2, .int v)]) hx hb dX8_clock_57 rfl hl (by decide) rfl (fun ls hl => ?_)
        refine lv_aload_n hx hb dX8_clock_58 rfl (lv_at hl 1 rfl) ?_
        refine zz_getr hx hb hts hi8 hown hK hP (g0.1) rfl 0 (by decide) (hts (.fieldLink RX8 10 "NoonLaw" "realm" "LNoonLaw$Realm;") (List.mem_cons_of_mem _ bm_16)) rfl rfl dX8_clock_59 ?_
        refine lv_iload_n hx hb dX8_clock_62 rfl (lv_at hl 3 rfl) ?_
        refine zz_puti (v := v) (ty := .int) hx hb hts hi2 tyX2 tyX2_ok nmX2 hown hK hP hS (g0.2.1.1) rfl 1 (by decide) (hts (.fieldLink RX8 107 "NoonLaw$Realm" "sleep" "I") (List.mem_cons_of_mem _ bm_167)) rfl rfl (by decide +kernel) rfl rfl rfl dX8_clock_63 (fun σ7 H locs w7 hP1 hS1 => ?_)
        replace hP := hP1
        replace hS := hS1
        clear hP1 hS1
        replace hC := hC.u w7 (dS15_19 h0)
        replace t0 : σ7 (h0 + 1) 0 = σ (h0 + 1) 0 := (zz_w (b := (h0 + 1)) (j := 0) w7 (fun q9 => absurd q9.2 (by decide))).trans t0
        replace t1 : σ7 (h0 + 1) 1 = v := zz_w1 w7
        replace t2 : σ7 (h0 + 1) 4 = σ (h0 + 1) 4 := (zz_w (b := (h0 + 1)) (j := 4) w7 (fun q9 => absurd q9.2 (by decide))).trans t2
        replace t3 : σ7 (h0 + 1) 6 = σ (h0 + 1) 6 := (zz_w (b := (h0 + 1)) (j := 6) w7 (fun q9 => absurd q9.2 (by decide))).trans t3
        replace t4 : σ7 (h0 + 1) 9 = σ (h0 + 1) 9 := (zz_w (b := (h0 + 1)) (j := 9) w7 (fun q9 => absurd q9.2 (by decide))).trans t4
        replace t5 : σ7 (h0 + 1) 11 = σ (h0 + 1) 11 := (zz_w (b := (h0 + 1)) (j := 11) w7 (fun q9 => absurd q9.2 (by decide))).trans t5
        replace t6 : σ7 (h0 + 1) 2 = σ (h0 + 1) 2 := (zz_w (b := (h0 + 1)) (j := 2) w7 (fun q9 => absurd q9.2 (by decide))).trans t6
        refine lv_goto (tgt := 75) hx hb dX8_clock_66 (by decide) ?_
        refine lv_iload_n hx hb dX8_clock_75 rfl (lv_at hl 0 rfl) ?_
        exact zz_iret hx hb hr hlocks hK hP hS dX8_clock_76 (by exact ⟨hC, (hI.scal (hC.mono (by intro a k h; first | (dsimp only at h ⊢; omega) | omega)) (by rw [t0]; omega) (by rw [t1]; omega) (by rw [t2]; omega) (by rw [t3]; omega) (by rw [t4]; omega) (by rw [t5]; omega) (by rw [zz_DXk (r := (h0 + 1)) hC (by intro j hj k hk; first | (dsimp only; omega) | omega)]; exact hid)), by rw [t0, t1]; omega⟩)
  · have c1 := zz_eqT c1
    refine lv_iload_n hx hb dX8_clock_4 rfl (lv_at hl 2 rfl) ?_
    refine lv_iconst (v := 0) hx hb dX8_clock_5 (by decide) ?_
    refine lv_sipush (v := 9999) hx hb dX8_clock_6 (by decide) ?_
    refine zz_callSp (As := [.int v, .int 0, .int 9999]) (rest := []) ⟨hx, hb, hml, hown, hts⟩ hK hP hS (c_X8_within l E σ v 0 9999) (va_cwS 3 hts gX8_clock_X8_within rfl rfl rfl (by decide +kernel) ⟨Nat.le_of_ble_eq_true rfl, Nat.le_of_ble_eq_true rfl⟩) rfl hl.1 rfl (Nat.le_of_ble_eq_true rfl) dX8_clock_9 ⟨Nat.zero_le _, Nat.zero_le _⟩ (fun r8 H locs f8 hP1 hS1 => ?_)
    replace hP := hP1
    replace hS := hS1
    clear hP1 hS1
    refine lv_if_eq (tgt := 34) hx hb dX8_clock_12 (by decide) (fun c9 => ?_) (fun c9 => ?_)
    · have c9 := zz_eqT c9
      refine lv_iload_n hx hb dX8_clock_34 rfl (lv_at hl 1 rfl) ?_
      refine lv_iconst (v := 1) hx hb dX8_clock_35 (by decide) ?_
      refine lv_icmp_ne (tgt := 69) hx hb dX8_clock_36 (by decide) (fun c10 => ?_) (fun c10 => ?_)
      · have c10 := zz_neT c10
        refine lv_aload_n hx hb dX8_clock_69 rfl (lv_at hl 0 rfl) ?_
        refine lv_iconst (v := 1) hx hb dX8_clock_70 (by decide) ?_
        refine zz_callVi (As := [.int 1]) (rest := []) ⟨hx, hb, hml, hown, hts⟩ hK hP hS (c_X8_refuse l E σ h0 1 g0 (by omega)) (cwV 1 hts gX8_clock_X8_refuse rfl rfl rfl (by decide +kernel) ⟨Nat.le_of_ble_eq_true rfl, Nat.le_of_ble_eq_true rfl⟩) (g0.1) rfl rfl hl.1 rfl (Nat.le_of_ble_eq_true rfl) dX8_clock_71 ⟨Nat.zero_le _, Nat.zero_le _⟩ (fun r11 σ11 H locs q11 hP1 hS1 => ?_)
        replace hP := hP1
        replace hS := hS1
        clear hP1 hS1
        try dsimp only at q11
        obtain ⟨w11, f11⟩ := q11
        replace hC := hC.tr (w11.mono (dS15_18 h0))
        replace t0 : σ11 (h0 + 1) 0 = σ (h0 + 1) 0 := (w11 (h0 + 1) 0 (dS15_2 h0)).trans t0
        replace t1 : σ11 (h0 + 1) 1 = σ (h0 + 1) 1 := (w11 (h0 + 1) 1 (dS15_2 h0)).trans t1
        replace t2 : σ11 (h0 + 1) 4 = σ (h0 + 1) 4 := (w11 (h0 + 1) 4 (dS15_2 h0)).trans t2
        replace t3 : σ11 (h0 + 1) 6 = σ (h0 + 1) 6 := (w11 (h0 + 1) 6 (dS15_2 h0)).trans t3
        replace t4 : σ11 (h0 + 1) 9 = σ (h0 + 1) 9 := (w11 (h0 + 1) 9 (dS15_2 h0)).trans t4
        replace t5 : σ11 (h0 + 1) 11 = σ (h0 + 1) 11 := (w11 (h0 + 1) 11 (dS15_2 h0)).trans t5
        replace t6 : σ11 (h0 + 1) 2 = σ (h0 + 1) 2 := (w11 (h0 + 1) 2 (dS15_2 h0)).trans t6
        refine lv_istore_n (lv' := [(3, .int r11), (0, .ref h0), (1, .int what), (2, .int v)]) hx hb dX8_clock_74 rfl hl (by decide) rfl (fun ls hl => ?_)
        refine lv_iload_n hx hb dX8_clock_75 rfl (lv_at hl 0 rfl) ?_
        exact zz_iret hx hb hr hlocks hK hP hS dX8_clock_76 (by exact ⟨hC, (hI.scal (hC.mono (by intro a k h; first | (dsimp only at h ⊢; omega) | omega)) (by rw [t0]; omega) (by rw [t1]; omega) (by rw [t2]; omega) (by rw [t3]; omega) (by rw [t4]; omega) (by rw [t5]; omega) (by rw [zz_DXk (r := (h0 + 1)) hC (by intro j hj k hk; first | (dsimp only; omega) | omega)]; exact hid)), by rw [t0, t1]; omega⟩)
      · have c10 := zz_eqT c10
        refine lv_iload_n hx hb dX8_clock_39 rfl (lv_at hl 2 rfl) ?_
        refine lv_bipush (v := 13) hx hb dX8_clock_40 (by decide) ?_
        refine lv_bipush (v := 24) hx hb dX8_clock_42 (by decide) ?_
        refine zz_callSp (As := [.int v, .int 13, .int 24]) (rest := []) ⟨hx, hb, hml, hown, hts⟩ hK hP hS (c_X8_within l E σ v 13 24) (va_cwS 3 hts gX8_clock_X8_within rfl rfl rfl (by decide +kernel) ⟨Nat.le_of_ble_eq_true rfl, Nat.le_of_ble_eq_true rfl⟩) rfl hl.1 rfl (Nat.le_of_ble_eq_true rfl) dX8_clock_44 ⟨Nat.zero_le _, Nat.zero_le _⟩ (fun r12 H locs f12 hP1 hS1 => ?_)
        replace hP := hP1
        replace hS := hS1
        clear hP1 hS1
        refine lv_if_eq (tgt := 69) hx hb dX8_clock_47 (by decide) (fun c13 => ?_) (fun c13 => ?_)
        · have c13 := zz_eqT c13
          refine lv_aload_n hx hb dX8_clock_69 rfl (lv_at hl 0 rfl) ?_
          refine lv_iconst (v := 1) hx hb dX8_clock_70 (by decide) ?_
          refine zz_callVi (As := [.int 1]) (rest := []) ⟨hx, hb, hml, hown, hts⟩ hK hP hS (c_X8_refuse l E σ h0 1 g0 (by omega)) (cwV 1 hts gX8_clock_X8_refuse rfl rfl rfl (by decide +kernel) ⟨Nat.le_of_ble_eq_true rfl, Nat.le_of_ble_eq_true rfl⟩) (g0.1) rfl rfl hl.1 rfl (Nat.le_of_ble_eq_true rfl) dX8_clock_71 ⟨Nat.zero_le _, Nat.zero_le _⟩ (fun r14 σ14 H locs q14 hP1 hS1 => ?_)
          replace hP := hP1
          replace hS := hS1
          clear hP1 hS1
          try dsimp only at q14
          obtain ⟨w14, f14⟩ := q14
          replace hC := hC.tr (w14.mono (dS15_18 h0))
          replace t0 : σ14 (h0 + 1) 0 = σ (h0 + 1) 0 := (w14 (h0 + 1) 0 (dS15_2 h0)).trans t0
          replace t1 : σ14 (h0 + 1) 1 = σ (h0 + 1) 1 := (w14 (h0 + 1) 1 (dS15_2 h0)).trans t1
          replace t2 : σ14 (h0 + 1) 4 = σ (h0 + 1) 4 := (w14 (h0 + 1) 4 (dS15_2 h0)).trans t2
          replace t3 : σ14 (h0 + 1) 6 = σ (h0 + 1) 6 := (w14 (h0 + 1) 6 (dS15_2 h0)).trans t3
          replace t4 : σ14 (h0 + 1) 9 = σ (h0 + 1) 9 := (w14 (h0 + 1) 9 (dS15_2 h0)).trans t4
          replace t5 : σ14 (h0 + 1) 11 = σ (h0 + 1) 11 := (w14 (h0 + 1) 11 (dS15_2 h0)).trans t5
          replace t6 : σ14 (h0 + 1) 2 = σ (h0 + 1) 2 := (w14 (h0 + 1) 2 (dS15_2 h0)).trans t6
          refine lv_istore_n (lv' := [(3, .int r14), (0, .ref h0), (1, .int what), (2, .int v)]) hx hb dX8_clock_74 rfl hl (by decide) rfl (fun ls hl => ?_)
          refine lv_iload_n hx hb dX8_clock_75 rfl (lv_at hl 0 rfl) ?_
          exact zz_iret hx hb hr hlocks hK hP hS dX8_clock_76 (by exact ⟨hC, (hI.scal (hC.mono (by intro a k h; first | (dsimp only at h ⊢; omega) | omega)) (by rw [t0]; omega) (by rw [t1]; omega) (by rw [t2]; omega) (by rw [t3]; omega) (by rw [t4]; omega) (by rw [t5]; omega) (by rw [zz_DXk (r := (h0 + 1)) hC (by intro j hj k hk; first | (dsimp only; omega) | omega)]; exact hid)), by rw [t0, t1]; omega⟩)
        · have c13 := zz_neT c13
          refine lv_aload_n hx hb dX8_clock_50 rfl (lv_at hl 0 rfl) ?_
          refine zz_getr hx hb hts hi8 hown hK hP (g0.1) rfl 0 (by decide) (hts (.fieldLink RX8 10 "NoonLaw" "realm" "LNoonLaw$Realm;") (List.mem_cons_of_mem _ bm_16)) rfl rfl dX8_clock_51 ?_
          refine zz_geti hx hb hts hi2 hown hK hP (g0.2.1.1) rfl 1 (by decide) (hts (.fieldLink RX8 107 "NoonLaw$Realm" "sleep" "I") (List.mem_cons_of_mem _ bm_167)) rfl rfl t1 dX8_clock_54 ?_
          refine lv_istore_n (lv' := [(3, .int (σ (h0 + 1) 1)), (0, .ref h0), (1, .int what), (2, .int v)]) hx hb dX8_clock_57 rfl hl (by decide) rfl (fun ls hl => ?_)
          refine lv_aload_n hx hb dX8_clock_58 rfl (lv_at hl 1 rfl) ?_
          refine zz_getr hx hb hts hi8 hown hK hP (g0.1) rfl 0 (by decide) (hts (.fieldLink RX8 10 "NoonLaw" "realm" "LNoonLaw$Realm;") (List.mem_cons_of_mem _ bm_16)) rfl rfl dX8_clock_59 ?_
          refine lv_iload_n hx hb dX8_clock_62 rfl (lv_at hl 3 rfl) ?_
          refine zz_puti (v := v) (ty := .int) hx hb hts hi2 tyX2 tyX2_ok nmX2 hown hK hP hS (g0.2.1.1) rfl 1 (by decide) (hts (.fieldLink RX8 107 "NoonLaw$Realm" "sleep" "I") (List.mem_cons_of_mem _ bm_167)) rfl rfl (by decide +kernel) rfl rfl rfl dX8_clock_63 (fun σ15 H locs w15 hP1 hS1 => ?_)
          replace hP := hP1
          replace hS := hS1
          clear hP1 hS1
          replace hC := hC.u w15 (dS15_19 h0)
          replace t0 : σ15 (h0 + 1) 0 = σ (h0 + 1) 0 := (zz_w (b := (h0 + 1)) (j := 0) w15 (fun q9 => absurd q9.2 (by decide))).trans t0
          replace t1 : σ15 (h0 + 1) 1 = v := zz_w1 w15
          replace t2 : σ15 (h0 + 1) 4 = σ (h0 + 1) 4 := (zz_w (b := (h0 + 1)) (j := 4) w15 (fun q9 => absurd q9.2 (by decide))).trans t2
          replace t3 : σ15 (h0 + 1) 6 = σ (h0 + 1) 6 := (zz_w (b := (h0 + 1)) (j := 6) w15 (fun q9 => absurd q9.2 (by decide))).trans t3
          replace t4 : σ15 (h0 + 1) 9 = σ (h0 + 1) 9 := (zz_w (b := (h0 + 1)) (j := 9) w15 (fun q9 => absurd q9.2 (by decide))).trans t4
          replace t5 : σ15 (h0 + 1) 11 = σ (h0 + 1) 11 := (zz_w (b := (h0 + 1)) (j := 11) w15 (fun q9 => absurd q9.2 (by decide))).trans t5
          replace t6 : σ15 (h0 + 1) 2 = σ (h0 + 1) 2 := (zz_w (b := (h0 + 1)) (j := 2) w15 (fun q9 => absurd q9.2 (by decide))).trans t6
          refine lv_goto (tgt := 75) hx hb dX8_clock_66 (by decide) ?_
          refine lv_iload_n hx hb dX8_clock_75 rfl (lv_at hl 0 rfl) ?_
          exact zz_iret hx hb hr hlocks hK hP hS dX8_clock_76 (by exact ⟨hC, (hI.scal (hC.mono (by intro a k h; first | (dsimp only at h ⊢; omega) | omega)) (by rw [t0]; omega) (by rw [t1]; omega) (by rw [t2]; omega) (by rw [t3]; omega) (by rw [t4]; omega) (by rw [t5]; omega) (by rw [zz_DXk (r := (h0 + 1)) hC (by intro j hj k hk; first | (dsimp only; omega) | omega)]; exact hid)), by rw [t0, t1]; omega⟩)
    · have c9 := zz_neT c9
      refine lv_aload_n hx hb dX8_clock_15 rfl (lv_at hl 0 rfl) ?_
      refine zz_getr hx hb hts hi8 hown hK hP (g0.1) rfl 0 (by decide) (hts (.fieldLink RX8 10 "NoonLaw" "realm" "LNoonLaw$Realm;") (List.mem_cons_of_mem _ bm_16)) rfl rfl dX8_clock_16 ?_
      refine zz_geti hx hb hts hi2 hown hK hP (g0.2.1.1) rfl 0 (by decide) (hts (.fieldLink RX8 104 "NoonLaw$Realm" "hour" "I") (List.mem_cons_of_mem _ bm_166)) rfl rfl t0 dX8_clock_19 ?_
      refine lv_istore_n (lv' := [(3, .int (σ (h0 + 1) 0)), (0, .ref h0), (1, .int what), (2, .int v)]) hx hb dX8_clock_22 rfl hl (by decide) rfl (fun ls hl => ?_)
      refine lv_aload_n hx hb dX8_clock_23 rfl (lv_at hl 1 rfl) ?_
      refine zz_getr hx hb hts hi8 hown hK hP (g0.1) rfl 0 (by decide) (hts (.fieldLink RX8 10 "NoonLaw" "realm" "LNoonLaw$Realm;") (List.mem_cons_of_mem _ bm_16)) rfl rfl dX8_clock_24 ?_
      refine lv_iload_n hx hb dX8_clock_27 rfl (lv_at hl 3 rfl) ?_
      refine zz_puti (v := v) (ty := .int) hx hb hts hi2 tyX2 tyX2_ok nmX2 hown hK hP hS (g0.2.1.1) rfl 0 (by decide) (hts (.fieldLink RX8 104 "NoonLaw$Realm" "hour" "I") (List.mem_cons_of_mem _ bm_166)) rfl rfl (by decide +kernel) rfl rfl rfl dX8_clock_28 (fun σ16 H locs w16 hP1 hS1 => ?_)
      replace hP := hP1
      replace hS := hS1
      clear hP1 hS1
      replace hC := hC.u w16 (dS15_20 h0)
      replace t0 : σ16 (h0 + 1) 0 = v := zz_w1 w16
      replace t1 : σ16 (h0 + 1) 1 = σ (h0 + 1) 1 := (zz_w (b := (h0 + 1)) (j := 1) w16 (fun q9 => absurd q9.2 (by decide))).trans t1
      replace t2 : σ16 (h0 + 1) 4 = σ (h0 + 1) 4 := (zz_w (b := (h0 + 1)) (j := 4) w16 (fun q9 => absurd q9.2 (by decide))).trans t2
      replace t3 : σ16 (h0 + 1) 6 = σ (h0 + 1) 6 := (zz_w (b := (h0 + 1)) (j := 6) w16 (fun q9 => absurd q9.2 (by decide))).trans t3
      replace t4 : σ16 (h0 + 1) 9 = σ (h0 + 1) 9 := (zz_w (b := (h0 + 1)) (j := 9) w16 (fun q9 => absurd q9.2 (by decide))).trans t4
      replace t5 : σ16 (h0 + 1) 11 = σ (h0 + 1) 11 := (zz_w (b := (h0 + 1)) (j := 11) w16 (fun q9 => absurd q9.2 (by decide))).trans t5
      replace t6 : σ16 (h0 + 1) 2 = σ (h0 + 1) 2 := (zz_w (b := (h0 + 1)) (j := 2) w16 (fun q9 => absurd q9.2 (by decide))).trans t6
      refine lv_goto (tgt := 75) hx hb dX8_clock_31 (by decide) ?_
      refine lv_iload_n hx hb dX8_clock_75 rfl (lv_at hl 0 rfl) ?_
      exact zz_iret hx hb hr hlocks hK hP hS dX8_clock_76 (by exact ⟨hC, (hI.scal (hC.mono (by intro a k h; first | (dsimp only at h ⊢; omega) | omega)) (by rw [t0]; omega) (by rw [t1]; omega) (by rw [t2]; omega) (by rw [t3]; omega) (by rw [t4]; omega) (by rw [t5]; omega) (by rw [zz_DXk (r := (h0 + 1)) hC (by intro j hj k hk; first | (dsimp only; omega) | omega)]; exact hid)), by rw [t0, t1]; omega⟩)
theorem dS15_21 (x0 : Nat) : (x0 + 1) = x0 + 24 ∨ (x0 + 1) = x0 + 27 ∨ (x0 + 58 ≤ (x0 + 1) ∧ (x0 + 1) ≤ x0 + 67) ∨ ((x0 + 1) = x0 + 1 ∧ (2) = 2) := by omega
set_option maxHeartbeats 4000000 in
set_option maxRecDepth 100000 in
theorem c_X8_seed (l : Launch) (E : zz_E) (σ : zz_S) (h0 : Nat) (v : Int32) (g0 : zz_L E h0) (hI : zz_IX σ h0) : Met l yX8_seed wzX8_seed ({ frames := 0, cells := 0, slots := 0, locals := 0 }) (va_Pc [.ref h0, .int v] (zz_B E σ)) (va_Qi (fun r σ1 => zz_ch (fun a k => a = h0 + 24 ∨ a = h0 + 27 ∨ (h0 + 58 ≤ a ∧ a ≤ h0 + 67) ∨ (a = h0 + 1 ∧ k = 2)) σ σ1 ∧ (zz_IX σ1 h0 ∧ (r = σ (h0 + 1) 2 ∧ σ1 (h0 + 1) 2 = v))) (zz_B E) (zz_A E)) 0 0 (zz_A E) := by
  refine zz_met (cc := cX8_seed) (maxL := 3) (ret := (some .int)) (by decide) rfl (Nat.le_of_ble_eq_true rfl) ?_
  intro p e s m args below meth c ls hx hb hr hts hown hlocks hml hK hP hS hl
  have hl : lv_has ls 3 [(0, .ref h0), (1, .int v)] := hl
  have hown : s.vm.findClass RX8 = some m.cls := hown
  have hi2 : ∀ w ∈ wsX20, w ∈ wzX8_seed := fun w h => List.mem_cons_of_mem _ (hbw2 w h)
  have hi8 : ∀ w ∈ wsX80, w ∈ wzX8_seed := fun w h => List.mem_cons_of_mem _ (hbw8 w h)
  replace t0 : σ (h0 + 1) 0 = σ (h0 + 1) 0 := rfl
  replace t1 : σ (h0 + 1) 1 = σ (h0 + 1) 1 := rfl
  replace t2 : σ (h0 + 1) 4 = σ (h0 + 1) 4 := rfl
  replace t3 : σ (h0 + 1) 6 = σ (h0 + 1) 6 := rfl
  replace t4 : σ (h0 + 1) 9 = σ (h0 + 1) 9 := rfl
  replace t5 : σ (h0 + 1) 11 = σ (h0 + 1) 11 := rfl
  replace t6 : σ (h0 + 1) 2 = σ (h0 + 1) 2 := rfl
  have hC : zz_ch (fun a k => a = h0 + 24 ∨ a = h0 + 27 ∨ (h0 + 58 ≤ a ∧ a ≤ h0 + 67) ∨ (a = h0 + 1 ∧ k = 2)) σ σ := zz_ch.rf σ
  obtain ⟨⟨hh, hsl, hd, hp, htc, hwc, ht, hft, hst, hid⟩, hkI, hsh, hspk⟩ := id hI
  refine lv_aload_n hx hb dX8_seed_0 rfl (lv_at hl 0 rfl) ?_
  refine zz_getr hx hb hts hi8 hown hK hP (g0.1) rfl 0 (by decide) (hts (.fieldLink RX8 10 "NoonLaw" "realm" "LNoonLaw$Realm;") (List.mem_cons_of_mem _ bm_16)) rfl rfl dX8_seed_1 ?_
  refine zz_geti hx hb hts hi2 hown hK hP (g0.2.1.1) rfl 2 (by decide) (hts (.fieldLink RX8 201 "NoonLaw$Realm" "z" "I") (List.mem_cons_of_mem _ bm_628)) rfl rfl t6 dX8_seed_4 ?_
  refine lv_istore_n (lv' := [(2, .int (σ (h0 + 1) 2)), (0, .ref h0), (1, .int v)]) hx hb dX8_seed_7 rfl hl (by decide) rfl (fun ls hl => ?_)
  refine lv_aload_n hx hb dX8_seed_8 rfl (lv_at hl 1 rfl) ?_
  refine zz_getr hx hb hts hi8 hown hK hP (g0.1) rfl 0 (by decide) (hts (.fieldLink RX8 10 "NoonLaw" "realm" "LNoonLaw$Realm;") (List.mem_cons_of_mem _ bm_16)) rfl rfl dX8_seed_9 ?_
  refine lv_iload_n hx hb dX8_seed_12 rfl (lv_at hl 2 rfl) ?_
  refine zz_puti (v := v) (ty := .int) hx hb hts hi2 tyX2 tyX2_ok nmX2 hown hK hP hS (g0.2.1.1) rfl 2 (by decide) (hts (.fieldLink RX8 201 "NoonLaw$Realm" "z" "I") (List.mem_cons_of_mem _ bm_628)) rfl rfl (by decide +kernel) rfl rfl rfl dX8_seed_13 (fun σ1 H locs w1 hP1 hS1 => ?_)
  replace hP := hP1
  replace hS := hS1
  clear hP1 hS1
  replace hC := hC.u w1 (dS15_21 h0)
  replace t0 : σ1 (h0 + 1) 0 = σ (h0 + 1) 0 := (zz_w (b := (h0 + 1)) (j := 0) w1 (fun q9 => absurd q9.2 (by decide))).trans t0
  replace t1 : σ1 (h0 + 1) 1 = σ (h0 + 1) 1 := (zz_w (b := (h0 + 1)) (j := 1) w1 (fun q9 => absurd q9.2 (by decide))).trans t1
  replace t2 : σ1 (h0 + 1) 4 = σ (h0 + 1) 4 := (zz_w (b := (h0 + 1)) (j := 4) w1 (fun q9 => absurd q9.2 (by decide))).trans t2
  replace t3 : σ1 (h0 + 1) 6 = σ (h0 + 1) 6 := (zz_w (b := (h0 + 1)) (j := 6) w1 (fun q9 => absurd q9.2 (by decide))).trans t3
  replace t4 : σ1 (h0 + 1) 9 = σ (h0 + 1) 9 := (zz_w (b := (h0 + 1)) (j := 9) w1 (fun q9 => absurd q9.2 (by decide))).trans t4
  replace t5 : σ1 (h0 + 1) 11 = σ (h0 + 1) 11 := (zz_w (b := (h0 + 1)) (j := 11) w1 (fun q9 => absurd q9.2 (by decide))).trans t5
  replace t6 : σ1 (h0 + 1) 2 = v := zz_w1 w1
  refine lv_iload_n hx hb dX8_seed_16 rfl (lv_at hl 0 rfl) ?_
  exact zz_iret hx hb hr hlocks hK hP hS dX8_seed_17 (by exact ⟨hC, (hI.scal (hC.mono (by intro a k h; first | (dsimp only at h ⊢; omega) | omega)) (by rw [t0]; omega) (by rw [t1]; omega) (by rw [t2]; omega) (by rw [t3]; omega) (by rw [t4]; omega) (by rw [t5]; omega) (by rw [zz_DXk (r := (h0 + 1)) hC (by intro j hj k hk; first | (dsimp only; omega) | omega)]; exact hid)), ⟨rfl, t6⟩⟩)
theorem gX8_tell_X8_refuse : GoodIn wzX8_tell (wsV RX8 68 RX8 yX8_refuse wzX8_refuse) := wz_co bm_118 (wz_co bm_119 (wz_co bm_120 (wz_co bm_2 (wz_in bm_121))))
theorem dS15_22 (x0 : Nat) : (x0 + 1) = x0 + 24 ∨ (x0 + 1) = x0 + 27 ∨ (x0 + 58 ≤ (x0 + 1) ∧ (x0 + 1) ≤ x0 + 67) ∨ ((x0 + 1) = x0 + 1 ∧ (11) = 11) ∨ (x0 + 1) = x0 + 6 := by omega
theorem dS15_23 (x0 : Nat) : ∀ a k : Nat, (a = (x0) + 65) → (a = x0 + 24 ∨ a = x0 + 27 ∨ (x0 + 58 ≤ a ∧ a ≤ x0 + 67) ∨ (a = x0 + 1 ∧ k = 11) ∨ a = x0 + 6) := by intro a k h; omega
set_option maxHeartbeats 4000000 in
set_option maxRecDepth 100000 in
theorem c_X8_tell (l : Launch) (E : zz_E) (σ : zz_S) (h0 : Nat) (v : Int32) (g0 : zz_L E h0) (hI : zz_IX σ h0) : Met l yX8_tell wzX8_tell ({ frames := 1, cells := 0, slots := 0, locals := 21 }) (va_Pc [.ref h0, .int v] (zz_B E σ)) (va_Qi (fun r σ1 => zz_ch (fun a k => a = h0 + 24 ∨ a = h0 + 27 ∨ (h0 + 58 ≤ a ∧ a ≤ h0 + 67) ∨ (a = h0 + 1 ∧ k = 11) ∨ a = h0 + 6) σ σ1 ∧ (zz_IX σ1 h0 ∧ ((((σ (h0 + 1) 11).toInt = 24 ∧ r.toInt = -1000000004 ∧ (σ1 (h0 + 1) 11).toInt = 24) ∨ ((σ (h0 + 1) 11).toInt < 24 ∧ r.toInt = (σ (h0 + 1) 11).toInt + 1 ∧ (σ1 (h0 + 1) 11).toInt = (σ (h0 + 1) 11).toInt + 1)) ∧ (r.toInt < 0 → zy_wv σ1 (h0 + 1 + 5) 0 (σ1 (h0 + 1) 11).toInt = zy_wv σ (h0 + 1 + 5) 0 (σ (h0 + 1) 11).toInt) ∧ (0 ≤ r.toInt → zy_wv σ1 (h0 + 1 + 5) 0 (σ1 (h0 + 1) 11).toInt = zz_wn (zy_wv σ (h0 + 1 + 5) 0 (σ (h0 + 1) 11).toInt) (σ (h0 + 1) 11).toInt v.toInt)))) (zz_B E) (zz_A E)) 0 0 (zz_A E) := by
  refine zz_met (cc := cX8_tell) (maxL := 2) (ret := (some .int)) (by decide) rfl (Nat.le_of_ble_eq_true rfl) ?_
  intro p e s m args below meth c ls hx hb hr hts hown hlocks hml hK hP hS hl
  have hl : lv_has ls 2 [(0, .ref h0), (1, .int v)] := hl
  have hown : s.vm.findClass RX8 = some m.cls := hown
  have hi2 : ∀ w ∈ wsX20, w ∈ wzX8_tell := fun w h => List.mem_cons_of_mem _ (hbw2 w h)
  have hi8 : ∀ w ∈ wsX80, w ∈ wzX8_tell := fun w h => List.mem_cons_of_mem _ (hbw8 w h)
  have k_1 : (1 : Int32).toInt = 1 := by decide +kernel
  have k_4 : (4 : Int32).toInt = 4 := by decide +kernel
  have k_24 : (24 : Int32).toInt = 24 := by decide +kernel
  replace t0 : σ (h0 + 1) 0 = σ (h0 + 1) 0 := rfl
  replace t1 : σ (h0 + 1) 1 = σ (h0 + 1) 1 := rfl
  replace t2 : σ (h0 + 1) 4 = σ (h0 + 1) 4 := rfl
  replace t3 : σ (h0 + 1) 6 = σ (h0 + 1) 6 := rfl
  replace t4 : σ (h0 + 1) 9 = σ (h0 + 1) 9 := rfl
  replace t5 : σ (h0 + 1) 11 = σ (h0 + 1) 11 := rfl
  replace t6 : σ (h0 + 1) 2 = σ (h0 + 1) 2 := rfl
  have hC : zz_ch (fun a k => a = h0 + 24 ∨ a = h0 + 27 ∨ (h0 + 58 ≤ a ∧ a ≤ h0 + 67) ∨ (a = h0 + 1 ∧ k = 11) ∨ a = h0 + 6) σ σ := zz_ch.rf σ
  obtain ⟨⟨hh, hsl, hd, hp, htc, hwc, ht, hft, hst, hid⟩, hkI, hsh, hspk⟩ := id hI
  refine lv_aload_n hx hb dX8_tell_0 rfl (lv_at hl 0 rfl) ?_
  refine zz_getr hx hb hts hi8 hown hK hP (g0.1) rfl 0 (by decide) (hts (.fieldLink RX8 10 "NoonLaw" "realm" "LNoonLaw$Realm;") (List.mem_cons_of_mem _ bm_16)) rfl rfl dX8_tell_1 ?_
  refine zz_geti hx hb hts hi2 hown hK hP (g0.2.1.1) rfl 11 (by decide) (hts (.fieldLink RX8 294 "NoonLaw$Realm" "waitingCount" "I") (List.mem_cons_of_mem _ bm_990)) rfl rfl t5 dX8_tell_4 ?_
  refine lv_bipush (v := 24) hx hb dX8_tell_7 (by decide) ?_
  refine lv_icmp_lt (tgt := 18) hx hb dX8_tell_9 (by decide) (fun c1 => ?_) (fun c1 => ?_)
  · have c1 := zz_ltT c1
    refine lv_aload_n hx hb dX8_tell_18 rfl (lv_at hl 0 rfl) ?_
    refine zz_getr hx hb hts hi8 hown hK hP (g0.1) rfl 0 (by decide) (hts (.fieldLink RX8 10 "NoonLaw" "realm" "LNoonLaw$Realm;") (List.mem_cons_of_mem _ bm_16)) rfl rfl dX8_tell_19 ?_
    refine zz_getr hx hb hts hi2 hown hK hP (g0.2.1.1) rfl 10 (by decide) (hts (.fieldLink RX8 297 "NoonLaw$Realm" "waiting" "[I") (List.mem_cons_of_mem _ bm_991)) rfl rfl dX8_tell_22 ?_
    refine lv_aload_n hx hb dX8_tell_25 rfl (lv_at hl 0 rfl) ?_
    refine zz_getr hx hb hts hi8 hown hK hP (g0.1) rfl 0 (by decide) (hts (.fieldLink RX8 10 "NoonLaw" "realm" "LNoonLaw$Realm;") (List.mem_cons_of_mem _ bm_16)) rfl rfl dX8_tell_26 ?_
    refine zz_geti hx hb hts hi2 hown hK hP (g0.2.1.1) rfl 11 (by decide) (hts (.fieldLink RX8 294 "NoonLaw$Realm" "waitingCount" "I") (List.mem_cons_of_mem _ bm_990)) rfl rfl t5 dX8_tell_29 ?_
    refine lv_iload_n hx hb dX8_tell_32 rfl (lv_at hl 1 rfl) ?_
    refine zz_iast hx hb hK hP hS (g0.2.1.2.2.2.2.2.1) (by omega) (by omega) dX8_tell_33 (fun j2 σ2 H locs q2 r2 w2 hP1 hS1 => ?_)
    replace hP := hP1
    replace hS := hS1
    clear hP1 hS1
    replace hC := hC.u w2 (by first | (dsimp only; omega) | omega | (dsimp only; done))
    replace t0 : σ2 (h0 + 1) 0 = σ (h0 + 1) 0 := (zz_w (b := (h0 + 1)) (j := 0) w2 (fun q9 => zz_na (a := h0) (i := 1) (j := 6) (by decide) q9.1)).trans t0
    replace t1 : σ2 (h0 + 1) 1 = σ (h0 + 1) 1 := (zz_w (b := (h0 + 1)) (j := 1) w2 (fun q9 => zz_na (a := h0) (i := 1) (j := 6) (by decide) q9.1)).trans t1
    replace t2 : σ2 (h0 + 1) 4 = σ (h0 + 1) 4 := (zz_w (b := (h0 + 1)) (j := 4) w2 (fun q9 => zz_na (a := h0) (i := 1) (j := 6) (by decide) q9.1)).trans t2
    replace t3 : σ2 (h0 + 1) 6 = σ (h0 + 1) 6 := (zz_w (b := (h0 + 1)) (j := 6) w2 (fun q9 => zz_na (a := h0) (i := 1) (j := 6) (by decide) q9.1)).trans t3
    replace t4 : σ2 (h0 + 1) 9 = σ (h0 + 1) 9 := (zz_w (b := (h0 + 1)) (j := 9) w2 (fun q9 => zz_na (a := h0) (i := 1) (j := 6) (by decide) q9.1)).trans t4
    replace t5 : σ2 (h0 + 1) 11 = σ (h0 + 1) 11 := (zz_w (b := (h0 + 1)) (j := 11) w2 (fun q9 => zz_na (a := h0) (i := 1) (j := 6) (by decide) q9.1)).trans t5
    replace t6 : σ2 (h0 + 1) 2 = σ (h0 + 1) 2 := (zz_w (b := (h0 + 1)) (j := 2) w2 (fun q9 => zz_na (a := h0) (i := 1) (j := 6) (by decide) q9.1)).trans t6
    refine lv_aload_n hx hb dX8_tell_34 rfl (lv_at hl 0 rfl) ?_
    refine zz_getr hx hb hts hi8 hown hK hP (g0.1) rfl 0 (by decide) (hts (.fieldLink RX8 10 "NoonLaw" "realm" "LNoonLaw$Realm;") (List.mem_cons_of_mem _ bm_16)) rfl rfl dX8_tell_35 ?_
    refine lv_dup hx hb dX8_tell_38 rfl ?_
    refine zz_geti hx hb hts hi2 hown hK hP (g0.2.1.1) rfl 11 (by decide) (hts (.fieldLink RX8 294 "NoonLaw$Realm" "waitingCount" "I") (List.mem_cons_of_mem _ bm_990)) rfl rfl t5 dX8_tell_39 ?_
    refine lv_iconst (v := 1) hx hb dX8_tell_42 (by decide) ?_
    refine lv_iadd hx hb dX8_tell_43 ?_
    refine lv_topi (fun n3 e3 => ?_)
    have f3 : n3.toInt = (σ (h0 + 1) 11).toInt + (1 : Int32).toInt := zz_addT e3 (by omega) (by omega)
    refine zz_puti (v := n3) (ty := .int) hx hb hts hi2 tyX2 tyX2_ok nmX2 hown hK hP hS (g0.2.1.1) rfl 11 (by decide) (hts (.fieldLink RX8 294 "NoonLaw$Realm" "waitingCount" "I") (List.mem_cons_of_mem _ bm_990)) rfl rfl (by decide +kernel) rfl rfl rfl dX8_tell_44 (fun σ4 H locs w4 hP1 hS1 => ?_)
    replace hP := hP1
    replace hS := hS1
    clear hP1 hS1
    replace hC := hC.u w4 (dS15_22 h0)
    replace t0 : σ4 (h0 + 1) 0 = σ (h0 + 1) 0 := (zz_w (b := (h0 + 1)) (j := 0) w4 (fun q9 => absurd q9.2 (by decide))).trans t0
    replace t1 : σ4 (h0 + 1) 1 = σ (h0 + 1) 1 := (zz_w (b := (h0 + 1)) (j := 1) w4 (fun q9 => absurd q9.2 (by decide))).trans t1
    replace t2 : σ4 (h0 + 1) 4 = σ (h0 + 1) 4 := (zz_w (b := (h0 + 1)) (j := 4) w4 (fun q9 => absurd q9.2 (by decide))).trans t2
    replace t3 : σ4 (h0 + 1) 6 = σ (h0 + 1) 6 := (zz_w (b := (h0 + 1)) (j := 6) w4 (fun q9 => absurd q9.2 (by decide))).trans t3
    replace t4 : σ4 (h0 + 1) 9 = σ (h0 + 1) 9 := (zz_w (b := (h0 + 1)) (j := 9) w4 (fun q9 => absurd q9.2 (by decide))).trans t4
    replace t5 : σ4 (h0 + 1) 11 = n3 := zz_w1 w4
    replace t6 : σ4 (h0 + 1) 2 = σ (h0 + 1) 2 := (zz_w (b := (h0 + 1)) (j := 2) w4 (fun q9 => absurd q9.2 (by decide))).trans t6
    refine lv_aload_n hx hb dX8_tell_47 rfl (lv_at hl 0 rfl) ?_
    refine zz_getr hx hb hts hi8 hown hK hP (g0.1) rfl 0 (by decide) (hts (.fieldLink RX8 10 "NoonLaw" "realm" "LNoonLaw$Realm;") (List.mem_cons_of_mem _ bm_16)) rfl rfl dX8_tell_48 ?_
    refine zz_geti hx hb hts hi2 hown hK hP (g0.2.1.1) rfl 11 (by decide) (hts (.fieldLink RX8 294 "NoonLaw$Realm" "waitingCount" "I") (List.mem_cons_of_mem _ bm_990)) rfl rfl t5 dX8_tell_51 ?_
    exact zz_iret hx hb hr hlocks hK hP hS dX8_tell_54 (by exact ⟨hC, (hI.scal (hC.mono (by intro a k h; first | (dsimp only at h ⊢; omega) | omega)) (by rw [t0]; omega) (by rw [t1]; omega) (by rw [t2]; omega) (by rw [t3]; omega) (by rw [t4]; omega) (by rw [t5]; omega) (by rw [zz_DXk (r := (h0 + 1)) hC (by intro j hj k hk; first | (dsimp only; omega) | omega)]; exact hid)), by rw [t5]; omega, (fun q => absurd q (by omega)), (fun _ => zy_wv.up (j := j2) (w := v) (by omega) (by omega) (by rw [t5]; omega) rfl (by rw [w4, zz_un (by omega), w2, Nat.zero_add, zz_us]) (fun k hk hne => by rw [w4, zz_un (by omega), w2, zz_un (by omega)]))⟩)
  · have c1 := zz_nltT c1
    refine lv_aload_n hx hb dX8_tell_12 rfl (lv_at hl 0 rfl) ?_
    refine lv_iconst (v := 4) hx hb dX8_tell_13 (by decide) ?_
    refine zz_callVi (As := [.int 4]) (rest := []) ⟨hx, hb, hml, hown, hts⟩ hK hP hS (c_X8_refuse l E σ h0 4 g0 (by omega)) (cwV 1 hts gX8_tell_X8_refuse rfl rfl rfl (by decide +kernel) ⟨Nat.le_of_ble_eq_true rfl, Nat.le_of_ble_eq_true rfl⟩) (g0.1) rfl rfl hl.1 rfl (Nat.le_of_ble_eq_true rfl) dX8_tell_14 ⟨Nat.zero_le _, Nat.zero_le _⟩ (fun r5 σ5 H locs q5 hP1 hS1 => ?_)
    replace hP := hP1
    replace hS := hS1
    clear hP1 hS1
    try dsimp only at q5
    obtain ⟨w5, f5⟩ := q5
    replace hC := hC.tr (w5.mono (dS15_23 h0))
    replace t0 : σ5 (h0 + 1) 0 = σ (h0 + 1) 0 := (w5 (h0 + 1) 0 (dS15_2 h0)).trans t0
    replace t1 : σ5 (h0 + 1) 1 = σ (h0 + 1) 1 := (w5 (h0 + 1) 1 (dS15_2 h0)).trans t1
    replace t2 : σ5 (h0 + 1) 4 = σ (h0 + 1) 4 := (w5 (h0 + 1) 4 (dS15_2 h0)).trans t2
    replace t3 : σ5 (h0 + 1) 6 = σ (h0 + 1) 6 := (w5 (h0 + 1) 6 (dS15_2 h0)).trans t3
    replace t4 : σ5 (h0 + 1) 9 = σ (h0 + 1) 9 := (w5 (h0 + 1) 9 (dS15_2 h0)).trans t4
    replace t5 : σ5 (h0 + 1) 11 = σ (h0 + 1) 11 := (w5 (h0 + 1) 11 (dS15_2 h0)).trans t5
    replace t6 : σ5 (h0 + 1) 2 = σ (h0 + 1) 2 := (w5 (h0 + 1) 2 (dS15_2 h0)).trans t6
    exact zz_iret hx hb hr hlocks hK hP hS dX8_tell_17 (by exact ⟨hC, (hI.scal (hC.mono (by intro a k h; first | (dsimp only at h ⊢; omega) | omega)) (by rw [t0]; omega) (by rw [t1]; omega) (by rw [t2]; omega) (by rw [t3]; omega) (by rw [t4]; omega) (by rw [t5]; omega) (by rw [zz_DXk (r := (h0 + 1)) hC (by intro j hj k hk; first | (dsimp only; omega) | omega)]; exact hid)), by rw [t5]; omega, (fun _ => zy_wv.eq (congrArg Int32.toInt t5) (fun k hk => w5 _ _ (by first | (dsimp only; omega) | omega))), (fun q => absurd q (by omega))⟩)
theorem dS15_24 (x0 : Nat) : (x0 + 1) = x0 + 24 ∨ (x0 + 1) = x0 + 27 ∨ (x0 + 58 ≤ (x0 + 1) ∧ (x0 + 1) ≤ x0 + 67) ∨ ((x0 + 1) = x0 + 1 ∧ (11) = 11) := by omega
set_option maxHeartbeats 4000000 in
set_option maxRecDepth 100000 in
theorem c_X8_check (l : Launch) (E : zz_E) (σ : zz_S) (h0 : Nat) (g0 : zz_L E h0) (hI : zz_IX σ h0) : Met l yX8_check wzX8_check ({ frames := 0, cells := 0, slots := 0, locals := 0 }) (va_Pc [.ref h0] (zz_B E σ)) (va_Qi (fun r σ1 => zz_ch (fun a k => a = h0 + 24 ∨ a = h0 + 27 ∨ (h0 + 58 ≤ a ∧ a ≤ h0 + 67) ∨ (a = h0 + 1 ∧ k = 11)) σ σ1 ∧ (zz_IX σ1 h0 ∧ ((σ1 (h0 + 1) 11).toInt = 0 ∧ r.toInt = zy_ck (zy_cp (σ (h0 + 1) 6).toInt (zz_PX 1 σ (h0 + 1)) (zy_wv σ (h0 + 1 + 5) 0 (σ (h0 + 1) 11).toInt)) (σ (h0 + 1) 11).toInt.toNat 0))) (zz_B E) (zz_A E)) 0 0 (zz_A E) := by
  refine zz_met (cc := cX8_check) (maxL := 3) (ret := (some .int)) (by decide) rfl (Nat.le_of_ble_eq_true rfl) ?_
  intro p e s m args below meth c ls hx hb hr hts hown hlocks hml hK hP hS hl
  have hl : lv_has ls 3 [(0, .ref h0)] := hl
  have hown : s.vm.findClass RX8 = some m.cls := hown
  have hi1 : ∀ w ∈ wsX10, w ∈ wzX8_check := fun w h => List.mem_cons_of_mem _ (hbw1 w h)
  have hi2 : ∀ w ∈ wsX20, w ∈ wzX8_check := fun w h => List.mem_cons_of_mem _ (hbw2 w h)
  have hi8 : ∀ w ∈ wsX80, w ∈ wzX8_check := fun w h => List.mem_cons_of_mem _ (hbw8 w h)
  have k_0 : (0 : Int32).toInt = 0 := by decide +kernel
  have k_1 : (1 : Int32).toInt = 1 := by decide +kernel
  replace t0 : σ (h0 + 1) 0 = σ (h0 + 1) 0 := rfl
  replace t1 : σ (h0 + 1) 1 = σ (h0 + 1) 1 := rfl
  replace t2 : σ (h0 + 1) 4 = σ (h0 + 1) 4 := rfl
  replace t3 : σ (h0 + 1) 6 = σ (h0 + 1) 6 := rfl
  replace t4 : σ (h0 + 1) 9 = σ (h0 + 1) 9 := rfl
  replace t5 : σ (h0 + 1) 11 = σ (h0 + 1) 11 := rfl
  replace t6 : σ (h0 + 1) 2 = σ (h0 + 1) 2 := rfl
  have hC : zz_ch (fun a k => a = h0 + 24 ∨ a = h0 + 27 ∨ (h0 + 58 ≤ a ∧ a ≤ h0 + 67) ∨ (a = h0 + 1 ∧ k = 11)) σ σ := zz_ch.rf σ
  obtain ⟨⟨hh, hsl, hd, hp, htc, hwc, ht, hft, hst, hid⟩, hkI, hsh, hspk⟩ := id hI
  obtain ⟨X9, hX9⟩ : ∃ X : Int, zz_hid (zy_ck (zy_cp (σ (h0 + 1) 6).toInt (zz_PX 1 σ (h0 + 1)) (zy_wv σ (h0 + 1 + 5) 0 (σ (h0 + 1) 11).toInt)) (σ (h0 + 1) 11).toInt.toNat 0 = X) := ⟨_, rfl⟩
  refine lv_aload_n hx hb dX8_check_0 rfl (lv_at hl 0 rfl) ?_
  refine zz_getr hx hb hts hi8 hown hK hP (g0.1) rfl 0 (by decide) (hts (.fieldLink RX8 10 "NoonLaw" "realm" "LNoonLaw$Realm;") (List.mem_cons_of_mem _ bm_16)) rfl rfl dX8_check_1 ?_
  refine zz_geti hx hb hts hi2 hown hK hP (g0.2.1.1) rfl 11 (by decide) (hts (.fieldLink RX8 294 "NoonLaw$Realm" "waitingCount" "I") (List.mem_cons_of_mem _ bm_990)) rfl rfl t5 dX8_check_4 ?_
  refine lv_istore_n (lv' := [(1, .int (σ (h0 + 1) 11)), (0, .ref h0)]) hx hb dX8_check_7 rfl hl (by decide) rfl (fun ls hl => ?_)
  refine lv_aload_n hx hb dX8_check_8 rfl (lv_at hl 1 rfl) ?_
  refine zz_getr hx hb hts hi8 hown hK hP (g0.1) rfl 0 (by decide) (hts (.fieldLink RX8 10 "NoonLaw" "realm" "LNoonLaw$Realm;") (List.mem_cons_of_mem _ bm_16)) rfl rfl dX8_check_9 ?_
  refine lv_iconst (v := 0) hx hb dX8_check_12 (by decide) ?_
  refine zz_puti (v := 0) (ty := .int) hx hb hts hi2 tyX2 tyX2_ok nmX2 hown hK hP hS (g0.2.1.1) rfl 11 (by decide) (hts (.fieldLink RX8 294 "NoonLaw$Realm" "waitingCount" "I") (List.mem_cons_of_mem _ bm_990)) rfl rfl (by decide +kernel) rfl rfl rfl dX8_check_13 (fun σ1 H locs w1 hP1 hS1 => ?_)
  replace hP := hP1
  replace hS := hS1
  clear hP1 hS1
  replace hC := hC.u w1 (dS15_24 h0)
  replace t0 : σ1 (h0 + 1) 0 = σ (h0 + 1) 0 := (zz_w (b := (h0 + 1)) (j := 0) w1 (fun q9 => absurd q9.2 (by decide))).trans t0
  replace t1 : σ1 (h0 + 1) 1 = σ (h0 + 1) 1 := (zz_w (b := (h0 + 1)) (j := 1) w1 (fun q9 => absurd q9.2 (by decide))).trans t1
  replace t2 : σ1 (h0 + 1) 4 = σ (h0 + 1) 4 := (zz_w (b := (h0 + 1)) (j := 4) w1 (fun q9 => absurd q9.2 (by decide))).trans t2
  replace t3 : σ1 (h0 + 1) 6 = σ (h0 + 1) 6 := (zz_w (b := (h0 + 1)) (j := 6) w1 (fun q9 => absurd q9.2 (by decide))).trans t3
  replace t4 : σ1 (h0 + 1) 9 = σ (h0 + 1) 9 := (zz_w (b := (h0 + 1)) (j := 9) w1 (fun q9 => absurd q9.2 (by decide))).trans t4
  replace t5 : σ1 (h0 + 1) 11 = 0 := zz_w1 w1
  replace t6 : σ1 (h0 + 1) 2 = σ (h0 + 1) 2 := (zz_w (b := (h0 + 1)) (j := 2) w1 (fun q9 => absurd q9.2 (by decide))).trans t6
  refine lv_iconst (v := 0) hx hb dX8_check_16 (by decide) ?_
  refine lv_istore_n (lv' := [(2, .int 0), (1, .int (σ (h0 + 1) 11)), (0, .ref h0)]) hx hb dX8_check_17 rfl hl (by decide) rfl (fun ls hl => ?_)
  have J18 : ∀ (n : Nat) (ii : Int32) (H : Heap) (locs : List Loc) (ls : Array Slot), ((25 - ii.toInt).toNat) < n → (0 ≤ ii.toInt ∧ ii.toInt ≤ (σ (h0 + 1) 11).toInt) → (zz_hid (zy_ck (zy_cp (σ (h0 + 1) 6).toInt (zz_PX 1 σ (h0 + 1)) (zy_wv σ (h0 + 1 + 5) 0 (σ (h0 + 1) 11).toInt)) ((σ (h0 + 1) 11).toInt.toNat - ii.toInt.toNat) ii.toInt.toNat = X9)) → zz_P E σ1 H → va_S (zz_A E) s.heap H locs → lv_has ls 3 [(2, .int ii), (1, .int (σ (h0 + 1) 11)), (0, .ref h0)] → W p l e (headSpec wzX8_check ({ frames := 0, cells := 0, slots := 0, locals := 0 })).room s m args below meth c H locs 0 0 (MQ below (va_Qi (fun r σ1 => zz_ch (fun a k => a = h0 + 24 ∨ a = h0 + 27 ∨ (h0 + 58 ≤ a ∧ a ≤ h0 + 67) ∨ (a = h0 + 1 ∧ k = 11)) σ σ1 ∧ (zz_IX σ1 h0 ∧ ((σ1 (h0 + 1) 11).toInt = 0 ∧ r.toInt = zy_ck (zy_cp (σ (h0 + 1) 6).toInt (zz_PX 1 σ (h0 + 1)) (zy_wv σ (h0 + 1 + 5) 0 (σ (h0 + 1) 11).toInt)) (σ (h0 + 1) 11).toInt.toNat 0))) (zz_B E) (zz_A E)) args s 0 0 (zz_A E)) (F0 m 18 ls []) := by
    intro n
    induction n with
    | zero => intro ii H locs ls hm; exact absurd hm (Nat.not_lt_zero _)
    | succ n ih18 =>
      intro ii H locs ls hm f18_0 f18_1 hP hS hl
      refine lv_iload_n hx hb dX8_check_18 rfl (lv_at hl 0 rfl) ?_
      refine lv_iload_n hx hb dX8_check_19 rfl (lv_at hl 1 rfl) ?_
      refine lv_icmp_ge (tgt := 68) hx hb dX8_check_20 (by decide) (fun c2 => ?_) (fun c2 => ?_)
      · have c2 := zz_leT c2
        refine lv_iconst (v := 0) hx hb dX8_check_68 (by decide) ?_
        have g := zy_ck_end f18_1 (by omega)
        exact zz_iret hx hb hr hlocks hK hP hS dX8_check_69 (by exact ⟨hC, (hI.scal (hC.mono (by intro a k h; first | (dsimp only at h ⊢; omega) | omega)) (by rw [t0]; omega) (by rw [t1]; omega) (by rw [t2]; omega) (by rw [t3]; omega) (by rw [t4]; omega) (by rw [t5]; omega) (by rw [zz_DXk (r := (h0 + 1)) hC (by intro j hj k hk; first | (dsimp only; omega) | omega)]; exact hid)), by rw [t5]; exact k_0, (show (0 : Int32).toInt = X9 by omega).trans (show _ = X9 from hX9).symm⟩)
      · have c2 := zz_nleT c2
        refine lv_iload_n hx hb dX8_check_23 rfl (lv_at hl 0 rfl) ?_
        refine lv_aload_n hx hb dX8_check_24 rfl (lv_at hl 2 rfl) ?_
        refine zz_getr hx hb hts hi8 hown hK hP (g0.1) rfl 0 (by decide) (hts (.fieldLink RX8 10 "NoonLaw" "realm" "LNoonLaw$Realm;") (List.mem_cons_of_mem _ bm_16)) rfl rfl dX8_check_25 ?_
        refine zz_geti hx hb hts hi2 hown hK hP (g0.2.1.1) rfl 6 (by decide) (hts (.fieldLink RX8 284 "NoonLaw$Realm" "peopleCount" "I") (List.mem_cons_of_mem _ bm_332)) rfl rfl t3 dX8_check_28 ?_
        refine lv_icmp_ge (tgt := 58) hx hb dX8_check_31 (by decide) (fun c3 => ?_) (fun c3 => ?_)
        · have c3 := zz_leT c3
          refine lv_iconst (v := 1) hx hb dX8_check_58 (by decide) ?_
          refine lv_iload_n hx hb dX8_check_59 rfl (lv_at hl 0 rfl) ?_
          refine lv_iadd hx hb dX8_check_60 ?_
          refine lv_topi (fun n4 e4 => ?_)
          have f4 : n4.toInt = (1 : Int32).toInt + (ii).toInt := zz_addT e4 (by omega) (by omega)
          have g := zy_ck_hit (P := (zy_cp (σ (h0 + 1) 6).toInt (zz_PX 1 σ (h0 + 1)) (zy_wv σ (h0 + 1 + 5) 0 (σ (h0 + 1) 11).toInt))) (show (σ (h0 + 1) 6).toInt ≤ ((ii.toInt.toNat : Nat) : Int) ∨ (zz_PX 1 σ (h0 + 1)) ii.toInt.toNat ≠ (zy_wv σ (h0 + 1 + 5) 0 (σ (h0 + 1) 11).toInt) ii.toInt.toNat by omega) f18_1 (by omega)
          exact zz_iret hx hb hr hlocks hK hP hS dX8_check_61 (by exact ⟨hC, (hI.scal (hC.mono (by intro a k h; first | (dsimp only at h ⊢; omega) | omega)) (by rw [t0]; omega) (by rw [t1]; omega) (by rw [t2]; omega) (by rw [t3]; omega) (by rw [t4]; omega) (by rw [t5]; omega) (by rw [zz_DXk (r := (h0 + 1)) hC (by intro j hj k hk; first | (dsimp only; omega) | omega)]; exact hid)), by rw [t5]; exact k_0, (show n4.toInt = X9 by omega).trans (show _ = X9 from hX9).symm⟩)
        · have c3 := zz_nleT c3
          refine lv_aload_n hx hb dX8_check_34 rfl (lv_at hl 2 rfl) ?_
          refine zz_getr hx hb hts hi8 hown hK hP (g0.1) rfl 0 (by decide) (hts (.fieldLink RX8 10 "NoonLaw" "realm" "LNoonLaw$Realm;") (List.mem_cons_of_mem _ bm_16)) rfl rfl dX8_check_35 ?_
          refine zz_getr hx hb hts hi2 hown hK hP (g0.2.1.1) rfl 5 (by decide) (hts (.fieldLink RX8 127 "NoonLaw$Realm" "people" "[LNoonLaw$Person;") (List.mem_cons_of_mem _ bm_325)) rfl rfl dX8_check_38 ?_
          refine lv_iload_n hx hb dX8_check_41 rfl (lv_at hl 0 rfl) ?_
          refine zz_aald hx hb hK hP (g0.2.1.2.2.1) rfl (by omega) (by omega) dX8_check_42 (fun j5 q5 r5 => ?_)
          refine zz_geti hx hb hts hi1 hown hK hP ((g0.2.1.2.2.2.2.2.2.2.1 j5 r5)) rfl 1 (by decide) (hts (.fieldLink RX8 136 "NoonLaw$Person" "fined" "I") (List.mem_cons_of_mem _ bm_327)) rfl rfl rfl dX8_check_43 ?_
          refine lv_aload_n hx hb dX8_check_46 rfl (lv_at hl 2 rfl) ?_
          refine zz_getr hx hb hts hi8 hown hK hP (g0.1) rfl 0 (by decide) (hts (.fieldLink RX8 10 "NoonLaw" "realm" "LNoonLaw$Realm;") (List.mem_cons_of_mem _ bm_16)) rfl rfl dX8_check_47 ?_
          refine zz_getr hx hb hts hi2 hown hK hP (g0.2.1.1) rfl 10 (by decide) (hts (.fieldLink RX8 297 "NoonLaw$Realm" "waiting" "[I") (List.mem_cons_of_mem _ bm_991)) rfl rfl dX8_check_50 ?_
          refine lv_iload_n hx hb dX8_check_53 rfl (lv_at hl 0 rfl) ?_
          refine zz_iald hx hb hK hP (g0.2.1.2.2.2.2.2.1) (by omega) (by omega) dX8_check_54 (fun j6 q6 r6 => ?_)
          have hx1 : (σ1 ((h0 + 1) + 15 + 1 * j5) 1).toInt = (zz_PX 1 σ (h0 + 1)) ii.toInt.toNat := by rw [show ii.toInt.toNat = j5 from by omega, zz_PX.at r5, w1, zz_un (by omega)]
          have hx2 : (σ1 ((h0 + 1) + 5) j6).toInt = (zy_wv σ (h0 + 1 + 5) 0 (σ (h0 + 1) 11).toInt) ii.toInt.toNat := by rw [zy_wv.at (by omega) (by omega), Nat.zero_add, show ii.toInt.toNat = j6 from by omega, w1, zz_un (by omega)]
          refine lv_icmp_eq (tgt := 62) hx hb dX8_check_55 (by decide) (fun c7 => ?_) (fun c7 => ?_)
          · have c7 := zz_eqT c7
            obtain ⟨n8, e8⟩ : ∃ y : Int32, y = ii + 1 := ⟨_, rfl⟩
            have f8 : n8.toInt = (ii).toInt + (1) := by have h9 := zz_addT e8 (by omega) (by omega); omega
            refine lv_iinc (v := n8) (lv' := [(2, .int n8), (1, .int (σ (h0 + 1) 11)), (0, .ref h0)]) hx hb dX8_check_62 hl (k := 0) rfl (by rw [e8]; rfl) (by decide) rfl (fun ls hl => ?_)
            refine lv_goto (tgt := 18) hx hb dX8_check_65 (by decide) ?_
            exact ih18 n8 _ _ _ (by omega) (by first | omega | exact ht | (rw [t0]; omega) | (rw [t1]; omega) | (rw [t2]; omega) | (rw [t3]; omega) | (intro j hj; rw [(hC _ _ (by first | (dsimp only; omega) | omega))]; exact ht j hj)) (by exact zy_ck_go (P := (zy_cp (σ (h0 + 1) 6).toInt (zz_PX 1 σ (h0 + 1)) (zy_wv σ (h0 + 1 + 5) 0 (σ (h0 + 1) 11).toInt))) (show ¬ ((σ (h0 + 1) 6).toInt ≤ ((ii.toInt.toNat : Nat) : Int) ∨ (zz_PX 1 σ (h0 + 1)) ii.toInt.toNat ≠ (zy_wv σ (h0 + 1 + 5) 0 (σ (h0 + 1) 11).toInt) ii.toInt.toNat) by omega) f18_1 (by omega) (by omega)) hP hS (lv_sub hl [0, 1, 2] rfl)
          · have c7 := zz_neT c7
            refine lv_iconst (v := 1) hx hb dX8_check_58 (by decide) ?_
            refine lv_iload_n hx hb dX8_check_59 rfl (lv_at hl 0 rfl) ?_
            refine lv_iadd hx hb dX8_check_60 ?_
            refine lv_topi (fun n9 e9 => ?_)
            have f9 : n9.toInt = (1 : Int32).toInt + (ii).toInt := zz_addT e9 (by omega) (by omega)
            have g := zy_ck_hit (P := (zy_cp (σ (h0 + 1) 6).toInt (zz_PX 1 σ (h0 + 1)) (zy_wv σ (h0 + 1 + 5) 0 (σ (h0 + 1) 11).toInt))) (show (σ (h0 + 1) 6).toInt ≤ ((ii.toInt.toNat : Nat) : Int) ∨ (zz_PX 1 σ (h0 + 1)) ii.toInt.toNat ≠ (zy_wv σ (h0 + 1 + 5) 0 (σ (h0 + 1) 11).toInt) ii.toInt.toNat by omega) f18_1 (by omega)
            exact zz_iret hx hb hr hlocks hK hP hS dX8_check_61 (by exact ⟨hC, (hI.scal (hC.mono (by intro a k h; first | (dsimp only at h ⊢; omega) | omega)) (by rw [t0]; omega) (by rw [t1]; omega) (by rw [t2]; omega) (by rw [t3]; omega) (by rw [t4]; omega) (by rw [t5]; omega) (by rw [zz_DXk (r := (h0 + 1)) hC (by intro j hj k hk; first | (dsimp only; omega) | omega)]; exact hid)), by rw [t5]; exact k_0, (show n9.toInt = X9 by omega).trans (show _ = X9 from hX9).symm⟩)
  exact J18 _ 0 _ _ _ (Nat.lt_succ_self _) (by first | omega | exact ht | (rw [t0]; omega) | (rw [t1]; omega) | (rw [t2]; omega) | (rw [t3]; omega) | (intro j hj; rw [(hC _ _ (by first | (dsimp only; omega) | omega))]; exact ht j hj)) (by rw [show (0 : Int32).toInt.toNat = 0 from by decide, Nat.sub_zero]; exact hX9) hP hS (lv_sub hl [0, 1, 2] rfl)
