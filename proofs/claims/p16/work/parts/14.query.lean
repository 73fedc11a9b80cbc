theorem gX8_then_X8_isPerson : GoodIn wzX8_then (wsV RX8 124 RX8 yX8_isPerson wzX8_isPerson) := wz_co bm_328 (wz_co bm_329 (wz_co bm_330 (wz_co bm_2 (wz_in bm_331))))
theorem gX8_then_X8_within : GoodIn wzX8_then (va_wsS RX8 64 yX8_within wzX8_within) := wz_co bm_112 (wz_co bm_113 (wz_co bm_2 (wz_in bm_114)))
theorem gX8_then_X8_refuse : GoodIn wzX8_then (wsV RX8 68 RX8 yX8_refuse wzX8_refuse) := wz_co bm_118 (wz_co bm_119 (wz_co bm_120 (wz_co bm_2 (wz_in bm_121))))
theorem gX8_then_X4_look : GoodIn wzX8_then (wsV RX8 139 RX4 yX4_look wzX4_look) := wz_co bm_333 (wz_co bm_334 (wz_co bm_335 (wz_co bm_30 (wz_in bm_336))))
theorem gX8_then_X2_fine : GoodIn wzX8_then (wsV RX8 146 RX2 yX2_fine wzX2_fine) := wz_co bm_367 (wz_co bm_368 (wz_co bm_369 (wz_co bm_15 (wz_in bm_370))))
theorem dS14_1 (x0 : Nat) : ∀ a k : Nat, (a = (x0) + 65) → (a = x0 + 24 ∨ a = x0 + 27 ∨ (x0 + 58 ≤ a ∧ a ≤ x0 + 67)) := by intro a k h; omega
theorem dS14_2 (x0 : Nat) : ¬ ((x0 + 1) = (x0) + 65) := by omega
theorem dS14_3 (x0 : Nat) : ∀ a k : Nat, (((x0 + 61) ≤ a ∧ a < (x0 + 61) + 4) ∨ a = (x0 + 1) + 23 ∨ a = (x0 + 1) + 26) → (a = x0 + 24 ∨ a = x0 + 27 ∨ (x0 + 58 ≤ a ∧ a ≤ x0 + 67)) := by intro a k h; omega
theorem dS14_4 (x0 : Nat) : ¬ (((x0 + 61) ≤ (x0 + 1) ∧ (x0 + 1) < (x0 + 61) + 4) ∨ (x0 + 1) = (x0 + 1) + 23 ∨ (x0 + 1) = (x0 + 1) + 26) := by omega
theorem dS14_5 (x0 : Nat) : ∀ a k : Nat, (a = (x0 + 1) + 23 ∨ a = (x0 + 1) + 26) → (a = x0 + 24 ∨ a = x0 + 27 ∨ (x0 + 58 ≤ a ∧ a ≤ x0 + 67)) := by intro a k h; omega
theorem dS14_6 (x0 : Nat) : ¬ ((x0 + 1) = (x0 + 1) + 23 ∨ (x0 + 1) = (x0 + 1) + 26) := by omega
set_option maxHeartbeats 4000000 in
set_option maxRecDepth 100000 in
theorem c_X8_then (l : Launch) (E : zz_E) (σ : zz_S) (h0 : Nat) (ps : Int32) (nn : Int32) (g0 : zz_L E h0) (hI : zz_IX σ h0) (K : zy_W) (hW : zy_XW σ (h0 + 1) K) (hFB : zy_FB (zz_PX 1 σ (h0 + 1))) : Met l yX8_then wzX8_then ({ frames := 5, cells := 0, slots := 0, locals := 121 }) (va_Pc [.ref h0, .int ps, .int nn] (zz_B E σ)) (va_Qi (fun r σ1 => zz_ch (fun a k => a = h0 + 24 ∨ a = h0 + 27 ∨ (h0 + 58 ≤ a ∧ a ≤ h0 + 67)) σ σ1 ∧ (zy_p20 K (σ (h0 + 1) 6).toInt (zz_PX 0 σ (h0 + 1)) (zz_PX 1 σ (h0 + 1)) (σ (h0 + 1) 0).toInt ps nn r)) (zz_B E) (zz_A E)) 0 0 (zz_A E) := by
  refine zz_met (cc := cX8_then) (maxL := 6) (ret := (some .int)) (by decide) rfl (Nat.le_of_ble_eq_true rfl) ?_
  intro p e s m args below meth c ls hx hb hr hts hown hlocks hml hK hP hS hl
  have hl : lv_has ls 6 [(0, .ref h0), (1, .int ps), (2, .int nn)] := hl
  have hown : s.vm.findClass RX8 = some m.cls := hown
  have hi1 : ∀ w ∈ wsX10, w ∈ wzX8_then := fun w h => List.mem_cons_of_mem _ (hbw1 w h)
  have hi2 : ∀ w ∈ wsX20, w ∈ wzX8_then := fun w h => List.mem_cons_of_mem _ (hbw2 w h)
  have hi8 : ∀ w ∈ wsX80, w ∈ wzX8_then := fun w h => List.mem_cons_of_mem _ (hbw8 w h)
  have k_0 : (0 : Int32).toInt = 0 := by decide +kernel
  have k_1 : (1 : Int32).toInt = 1 := by decide +kernel
  have k_240 : (240 : Int32).toInt = 240 := by decide +kernel
  have k_9999 : (9999 : Int32).toInt = 9999 := by decide +kernel
  replace t0 : σ (h0 + 1) 0 = σ (h0 + 1) 0 := rfl
  replace t1 : σ (h0 + 1) 1 = σ (h0 + 1) 1 := rfl
  replace t2 : σ (h0 + 1) 4 = σ (h0 + 1) 4 := rfl
  replace t3 : σ (h0 + 1) 6 = σ (h0 + 1) 6 := rfl
  have hC : zz_ch (fun a k => a = h0 + 24 ∨ a = h0 + 27 ∨ (h0 + 58 ≤ a ∧ a ≤ h0 + 67)) σ σ := zz_ch.rf σ
  obtain ⟨⟨hh, hsl, hd, hp, htc, hwc, ht, hft, hst, hid⟩, hkI, hsh, hspk⟩ := id hI
  have hct := hW.2.1
  have hlt := hW.2.2.1
  refine lv_aload_n hx hb dX8_then_0 rfl (lv_at hl 0 rfl) ?_
  refine lv_iload_n hx hb dX8_then_1 rfl (lv_at hl 1 rfl) ?_
  refine zz_callVp (As := [.int ps]) (rest := []) ⟨hx, hb, hml, hown, hts⟩ hK hP hS (c_X8_isPerson l E σ h0 ps g0 (by exact hp)) (cwV 1 hts gX8_then_X8_isPerson rfl rfl rfl (by decide +kernel) ⟨Nat.le_of_ble_eq_true rfl, Nat.le_of_ble_eq_true rfl⟩) (g0.1) rfl rfl hl.1 rfl (Nat.le_of_ble_eq_true rfl) dX8_then_2 ⟨Nat.zero_le _, Nat.zero_le _⟩ (fun r1 H locs f1 hP1 hS1 => ?_)
  replace hP := hP1
  replace hS := hS1
  clear hP1 hS1
  refine lv_if_eq (tgt := 19) hx hb dX8_then_5 (by decide) (fun c2 => ?_) (fun c2 => ?_)
  · have c2 := zz_eqT c2
    refine lv_aload_n hx hb dX8_then_19 rfl (lv_at hl 0 rfl) ?_
    refine lv_iconst (v := 1) hx hb dX8_then_20 (by decide) ?_
    refine zz_callVi (As := [.int 1]) (rest := []) ⟨hx, hb, hml, hown, hts⟩ hK hP hS (c_X8_refuse l E σ h0 1 g0 (by omega)) (cwV 1 hts gX8_then_X8_refuse rfl rfl rfl (by decide +kernel) ⟨Nat.le_of_ble_eq_true rfl, Nat.le_of_ble_eq_true rfl⟩) (g0.1) rfl rfl hl.1 rfl (Nat.le_of_ble_eq_true rfl) dX8_then_21 ⟨Nat.zero_le _, Nat.zero_le _⟩ (fun r3 σ3 H locs q3 hP1 hS1 => ?_)
    replace hP := hP1
    replace hS := hS1
    clear hP1 hS1
    try dsimp only at q3
    obtain ⟨w3, f3⟩ := q3
    replace hC := hC.tr (w3.mono (dS14_1 h0))
    replace t0 : σ3 (h0 + 1) 0 = σ (h0 + 1) 0 := (w3 (h0 + 1) 0 (dS14_2 h0)).trans t0
    replace t1 : σ3 (h0 + 1) 1 = σ (h0 + 1) 1 := (w3 (h0 + 1) 1 (dS14_2 h0)).trans t1
    replace t2 : σ3 (h0 + 1) 4 = σ (h0 + 1) 4 := (w3 (h0 + 1) 4 (dS14_2 h0)).trans t2
    replace t3 : σ3 (h0 + 1) 6 = σ (h0 + 1) 6 := (w3 (h0 + 1) 6 (dS14_2 h0)).trans t3
    exact zz_iret hx hb hr hlocks hK hP hS dX8_then_24 (by exact ⟨hC, Or.inl ⟨by omega, by omega⟩⟩)
  · have c2 := zz_neT c2
    refine lv_iload_n hx hb dX8_then_8 rfl (lv_at hl 2 rfl) ?_
    refine lv_iconst (v := 0) hx hb dX8_then_9 (by decide) ?_
    refine lv_sipush (v := 240) hx hb dX8_then_10 (by decide) ?_
    refine zz_callSp (As := [.int nn, .int 0, .int 240]) (rest := []) ⟨hx, hb, hml, hown, hts⟩ hK hP hS (c_X8_within l E σ nn 0 240) (va_cwS 3 hts gX8_then_X8_within rfl rfl rfl (by decide +kernel) ⟨Nat.le_of_ble_eq_true rfl, Nat.le_of_ble_eq_true rfl⟩) rfl hl.1 rfl (Nat.le_of_ble_eq_true rfl) dX8_then_13 ⟨Nat.zero_le _, Nat.zero_le _⟩ (fun r4 H locs f4 hP1 hS1 => ?_)
    replace hP := hP1
    replace hS := hS1
    clear hP1 hS1
    refine lv_if_ne (tgt := 25) hx hb dX8_then_16 (by decide) (fun c5 => ?_) (fun c5 => ?_)
    · have c5 := zz_neT c5
      refine lv_aload_n hx hb dX8_then_25 rfl (lv_at hl 0 rfl) ?_
      refine zz_getr hx hb hts hi8 hown hK hP (g0.1) rfl 0 (by decide) (hts (.fieldLink RX8 10 "NoonLaw" "realm" "LNoonLaw$Realm;") (List.mem_cons_of_mem _ bm_16)) rfl rfl dX8_then_26 ?_
      refine zz_getr hx hb hts hi2 hown hK hP (g0.2.1.1) rfl 5 (by decide) (hts (.fieldLink RX8 127 "NoonLaw$Realm" "people" "[LNoonLaw$Person;") (List.mem_cons_of_mem _ bm_325)) rfl rfl dX8_then_29 ?_
      refine lv_iload_n hx hb dX8_then_32 rfl (lv_at hl 1 rfl) ?_
      refine zz_aald hx hb hK hP (g0.2.1.2.2.1) rfl (by omega) (by omega) dX8_then_33 (fun j6 q6 r6 => ?_)
      refine lv_astore_n (lv' := [(3, .ref ((h0 + 1) + 15 + 1 * j6)), (0, .ref h0), (1, .int ps), (2, .int nn)]) hx hb dX8_then_34 rfl hl (by decide) rfl (fun ls hl => ?_)
      refine lv_aload_n hx hb dX8_then_35 rfl (lv_at hl 0 rfl) ?_
      refine zz_geti hx hb hts hi1 hown hK hP ((g0.2.1.2.2.2.2.2.2.2.1 j6 r6)) rfl 1 (by decide) (hts (.fieldLink RX8 136 "NoonLaw$Person" "fined" "I") (List.mem_cons_of_mem _ bm_327)) rfl rfl rfl dX8_then_36 ?_
      have hwo : σ (h0 + 1 + 15 + 1 * j6) 0 = Int32.ofInt (zz_PX 0 σ (h0 + 1) ps.toInt.toNat) := zz_ofI (by rw [show ps.toInt.toNat = j6 from by omega, zz_PX.at r6])
      have hf0 : (σ (h0 + 1 + 15 + 1 * j6) 1).toInt = zz_PX 1 σ (h0 + 1) ps.toInt.toNat := by rw [show ps.toInt.toNat = j6 from by omega, zz_PX.at r6]
      have hfb := hFB ps.toInt.toNat
      refine lv_istore (lv' := [(4, .int (σ ((h0 + 1) + 15 + 1 * j6) 1)), (3, .ref ((h0 + 1) + 15 + 1 * j6)), (0, .ref h0), (1, .int ps), (2, .int nn)]) hx hb dX8_then_39 hl (by decide) rfl (fun ls hl => ?_)
      refine lv_iconst (v := 0) hx hb dX8_then_41 (by decide) ?_
      refine lv_istore (lv' := [(5, .int 0), (4, .int (σ ((h0 + 1) + 15 + 1 * j6) 1)), (3, .ref ((h0 + 1) + 15 + 1 * j6)), (0, .ref h0), (1, .int ps), (2, .int nn)]) hx hb dX8_then_42 hl (by decide) rfl (fun ls hl => ?_)
      have J44 : ∀ (n : Nat) (fi : Int32) (ii : Int32) (σa : zz_S) (H : Heap) (locs : List Loc) (ls : Array Slot), ((241 - ii.toInt).toNat) < n → (zz_ch (fun a k => a = h0 + 24 ∨ a = h0 + 27 ∨ (h0 + 58 ≤ a ∧ a ≤ h0 + 67)) σ σa) → (0 ≤ ii.toInt ∧ ii.toInt ≤ nn.toInt) → (fi.toInt = zy_th K (σ (h0 + 1) 0).toInt (Int32.ofInt (zz_PX 0 σ (h0 + 1) ps.toInt.toNat)) ps (zz_PX 1 σ (h0 + 1) ps.toInt.toNat) ii.toInt.toNat) → (0 ≤ fi.toInt ∧ fi.toInt ≤ 9999) → (σa (h0 + 1) 0 = σ (h0 + 1) 0) → (σa (h0 + 1) 1 = σ (h0 + 1) 1) → (σa (h0 + 1) 4 = σ (h0 + 1) 4) → (σa (h0 + 1) 6 = σ (h0 + 1) 6) → zz_P E σa H → va_S (zz_A E) s.heap H locs → lv_has ls 6 [(5, .int ii), (4, .int fi), (3, .ref ((h0 + 1) + 15 + 1 * j6)), (0, .ref h0), (1, .int ps), (2, .int nn)] → W p l e (headSpec wzX8_then ({ frames := 5, cells := 0, slots := 0, locals := 121 })).room s m args below meth c H locs 0 0 (MQ below (va_Qi (fun r σ1 => zz_ch (fun a k => a = h0 + 24 ∨ a = h0 + 27 ∨ (h0 + 58 ≤ a ∧ a ≤ h0 + 67)) σ σ1 ∧ (zy_p20 K (σ (h0 + 1) 6).toInt (zz_PX 0 σ (h0 + 1)) (zz_PX 1 σ (h0 + 1)) (σ (h0 + 1) 0).toInt ps nn r)) (zz_B E) (zz_A E)) args s 0 0 (zz_A E)) (F0 m 44 ls []) := by
        intro n
        induction n with
        | zero => intro fi ii σa H locs ls hm; exact absurd hm (Nat.not_lt_zero _)
        | succ n ih44 =>
          intro fi ii σa H locs ls hm hC f44_0 f44_1 f44_2 t0 t1 t2 t3 hP hS hl
          have hC0 := hC
          refine lv_iload hx hb dX8_then_44 (lv_at hl 0 rfl) ?_
          refine lv_iload_n hx hb dX8_then_46 rfl (lv_at hl 5 rfl) ?_
          refine lv_icmp_ge (tgt := 101) hx hb dX8_then_47 (by decide) (fun c7 => ?_) (fun c7 => ?_)
          · have c7 := zz_leT c7
            refine lv_iload hx hb dX8_then_101 (lv_at hl 1 rfl) ?_
            exact zz_iret hx hb hr hlocks hK hP hS dX8_then_103 (by exact ⟨hC, Or.inr ⟨by omega, by rw [f44_1, show ii.toInt.toNat = nn.toInt.toNat from by omega]⟩⟩)
          · have c7 := zz_nleT c7
            refine lv_aload_n hx hb dX8_then_50 rfl (lv_at hl 3 rfl) ?_
            refine zz_getr hx hb hts hi8 hown hK hP (g0.1) rfl 6 (by decide) (hts (.fieldLink RX8 42 "NoonLaw" "sight" "LNoonLaw$Sight;") (List.mem_cons_of_mem _ bm_31)) rfl rfl dX8_then_51 ?_
            refine lv_aload_n hx hb dX8_then_54 rfl (lv_at hl 3 rfl) ?_
            refine zz_getr hx hb hts hi8 hown hK hP (g0.1) rfl 0 (by decide) (hts (.fieldLink RX8 10 "NoonLaw" "realm" "LNoonLaw$Realm;") (List.mem_cons_of_mem _ bm_16)) rfl rfl dX8_then_55 ?_
            refine lv_aload_n hx hb dX8_then_58 rfl (lv_at hl 3 rfl) ?_
            refine zz_getr hx hb hts hi8 hown hK hP (g0.1) rfl 0 (by decide) (hts (.fieldLink RX8 10 "NoonLaw" "realm" "LNoonLaw$Realm;") (List.mem_cons_of_mem _ bm_16)) rfl rfl dX8_then_59 ?_
            refine zz_geti hx hb hts hi2 hown hK hP (g0.2.1.1) rfl 0 (by decide) (hts (.fieldLink RX8 104 "NoonLaw$Realm" "hour" "I") (List.mem_cons_of_mem _ bm_166)) rfl rfl t0 dX8_then_62 ?_
            refine lv_iload hx hb dX8_then_65 (lv_at hl 0 rfl) ?_
            refine lv_iadd hx hb dX8_then_67 ?_
            refine lv_topi (fun n8 e8 => ?_)
            have f8 : n8.toInt = (σ (h0 + 1) 0).toInt + (ii).toInt := zz_addT e8 (by omega) (by omega)
            refine zz_callVv (As := [.ref (h0 + 1), .int n8]) (rest := []) ⟨hx, hb, hml, hown, hts⟩ hK hP hS (c_X4_look l E σa (h0 + 61) (h0 + 1) n8 (g0.2.2.2.2.2.2.2.1) (g0.2.1) (by rw [t2]; exact hd) (by intro j hj; rw [(hC _ _ (by first | (dsimp only; omega) | omega))]; exact ht j hj) (by omega) (by first | omega | exact ht | (rw [t0]; omega) | (rw [t1]; omega) | (rw [t2]; omega) | (rw [t3]; omega) | (intro j hj; rw [(hC _ _ (by first | (dsimp only; omega) | omega))]; exact ht j hj)) K (by exact hW.keep (fun a k q => hC a k (by first | (dsimp only; omega) | omega)))) (cwV 2 hts gX8_then_X4_look rfl rfl rfl (by decide +kernel) ⟨Nat.le_of_ble_eq_true rfl, Nat.le_of_ble_eq_true rfl⟩) (g0.2.2.2.2.2.2.2.1.1) rfl rfl hl.1 rfl (Nat.le_of_ble_eq_true rfl) dX8_then_68 ⟨Nat.zero_le _, Nat.zero_le _⟩ (fun σ9 H locs q9 hP1 hS1 => ?_)
            replace hP := hP1
            replace hS := hS1
            clear hP1 hS1
            try dsimp only at q9
            obtain ⟨w9, f9⟩ := q9
            replace hC := hC.tr (w9.mono (dS14_3 h0))
            try simp only [t0, t1, t2, t3] at f9
            replace t0 : σ9 (h0 + 1) 0 = σ (h0 + 1) 0 := (w9 (h0 + 1) 0 (dS14_4 h0)).trans t0
            replace t1 : σ9 (h0 + 1) 1 = σ (h0 + 1) 1 := (w9 (h0 + 1) 1 (dS14_4 h0)).trans t1
            replace t2 : σ9 (h0 + 1) 4 = σ (h0 + 1) 4 := (w9 (h0 + 1) 4 (dS14_4 h0)).trans t2
            replace t3 : σ9 (h0 + 1) 6 = σ (h0 + 1) 6 := (w9 (h0 + 1) 6 (dS14_4 h0)).trans t3
            refine lv_sipush (v := 9999) hx hb dX8_then_71 (by decide) ?_
            refine lv_iload hx hb dX8_then_74 (lv_at hl 1 rfl) ?_
            refine lv_aload_n hx hb dX8_then_76 rfl (lv_at hl 3 rfl) ?_
            refine zz_getr hx hb hts hi8 hown hK hP (g0.1) rfl 0 (by decide) (hts (.fieldLink RX8 10 "NoonLaw" "realm" "LNoonLaw$Realm;") (List.mem_cons_of_mem _ bm_16)) rfl rfl dX8_then_77 ?_
            refine lv_aload_n hx hb dX8_then_80 rfl (lv_at hl 2 rfl) ?_
            refine lv_iload_n hx hb dX8_then_81 rfl (lv_at hl 4 rfl) ?_
            refine lv_aload_n hx hb dX8_then_82 rfl (lv_at hl 3 rfl) ?_
            refine zz_getr hx hb hts hi8 hown hK hP (g0.1) rfl 6 (by decide) (hts (.fieldLink RX8 42 "NoonLaw" "sight" "LNoonLaw$Sight;") (List.mem_cons_of_mem _ bm_31)) rfl rfl dX8_then_83 ?_
            refine zz_callVi (As := [.ref ((h0 + 1) + 15 + 1 * j6), .int ps, .ref (h0 + 61)]) (rest := [.int fi, .int 9999]) ⟨hx, hb, hml, hown, hts⟩ hK hP hS (c_X2_fine l E σ9 (h0 + 1) ((h0 + 1) + 15 + 1 * j6) ps (h0 + 61) (g0.2.1) (g0.2.1.2.2.2.2.2.2.2.1 j6 r6) (g0.2.2.2.2.2.2.2.1) (by intro j hj; rw [(hC _ _ (by first | (dsimp only; omega) | omega))]; exact ht j hj) K n8.toInt (by exact f9) (by exact hW.keep (fun a k q => hC a k (by first | (dsimp only; omega) | omega)))) (cwV 3 hts gX8_then_X2_fine rfl rfl rfl (by decide +kernel) ⟨Nat.le_of_ble_eq_true rfl, Nat.le_of_ble_eq_true rfl⟩) (g0.2.1.1) rfl rfl hl.1 rfl (Nat.le_of_ble_eq_true rfl) dX8_then_86 ⟨Nat.zero_le _, Nat.zero_le _⟩ (fun r10 σ10 H locs q10 hP1 hS1 => ?_)
            replace hP := hP1
            replace hS := hS1
            clear hP1 hS1
            try dsimp only at q10
            obtain ⟨w10, f10⟩ := q10
            replace hC := hC.tr (w10.mono (dS14_5 h0))
            try simp only [t0, t1, t2, t3] at f10
            replace t0 : σ10 (h0 + 1) 0 = σ (h0 + 1) 0 := (w10 (h0 + 1) 0 (dS14_6 h0)).trans t0
            replace t1 : σ10 (h0 + 1) 1 = σ (h0 + 1) 1 := (w10 (h0 + 1) 1 (dS14_6 h0)).trans t1
            replace t2 : σ10 (h0 + 1) 4 = σ (h0 + 1) 4 := (w10 (h0 + 1) 4 (dS14_6 h0)).trans t2
            replace t3 : σ10 (h0 + 1) 6 = σ (h0 + 1) 6 := (w10 (h0 + 1) 6 (dS14_6 h0)).trans t3
            have hfn : r10.toInt = zy_fn K ((σ (h0 + 1) 0).toInt + ((ii.toInt.toNat : Nat) : Int)) (Int32.ofInt (zz_PX 0 σ (h0 + 1) ps.toInt.toNat)) ps := by rw [f10, w9 _ _ (by first | (dsimp only; omega) | omega), hC0 _ _ (by first | (dsimp only; omega) | omega), hwo, show n8.toInt = (σ (h0 + 1) 0).toInt + ((ii.toInt.toNat : Nat) : Int) from by omega]
            have hfr := zy_fn_rng K ((σ (h0 + 1) 0).toInt + ((ii.toInt.toNat : Nat) : Int)) (Int32.ofInt (zz_PX 0 σ (h0 + 1) ps.toInt.toNat)) ps
            refine lv_iadd hx hb dX8_then_89 ?_
            refine lv_topi (fun n11 e11 => ?_)
            have f11 : n11.toInt = (fi).toInt + (r10).toInt := zz_addT e11 (by omega) (by omega)
            refine va_mmin hx hb (hml.trans hl.1.symm) hown (hts (.methodLink RX8 227 Lib.Math.min.name) (List.mem_cons_of_mem _ bm_674)) (hts (.static Lib.Math.min.name) (List.mem_cons_of_mem _ bm_226)) (hts (.initialized "java/lang/Math") (List.mem_cons_of_mem _ bm_227)) (hts (.code Lib.Math.min.name Lib.Math.min.code 2 (some .int)) (List.mem_cons_of_mem _ bm_228)) (Nat.le_of_ble_eq_true rfl) (Nat.le_of_ble_eq_true rfl) (Nat.zero_le _) (Nat.zero_le _) dX8_then_90 ?_
            refine lv_topi (fun n12 e12 => ?_)
            have f12 := zz_minT e12
            refine lv_istore (lv' := [(4, .int n12), (5, .int ii), (3, .ref ((h0 + 1) + 15 + 1 * j6)), (0, .ref h0), (1, .int ps), (2, .int nn)]) hx hb dX8_then_93 hl (by decide) rfl (fun ls hl => ?_)
            obtain ⟨n13, e13⟩ : ∃ y : Int32, y = ii + 1 := ⟨_, rfl⟩
            have f13 : n13.toInt = (ii).toInt + (1) := by have h9 := zz_addT e13 (by omega) (by omega); omega
            refine lv_iinc (v := n13) (lv' := [(5, .int n13), (4, .int n12), (3, .ref ((h0 + 1) + 15 + 1 * j6)), (0, .ref h0), (1, .int ps), (2, .int nn)]) hx hb dX8_then_95 hl (k := 1) rfl (by rw [e13]; rfl) (by decide) rfl (fun ls hl => ?_)
            refine lv_goto (tgt := 44) hx hb dX8_then_98 (by decide) ?_
            exact ih44 n12 n13 σ10 _ _ _ (by omega) hC (by first | omega | exact ht | (rw [t0]; omega) | (rw [t1]; omega) | (rw [t2]; omega) | (rw [t3]; omega) | (intro j hj; rw [(hC _ _ (by first | (dsimp only; omega) | omega))]; exact ht j hj)) (by exact zy_th_s f44_1 hfn (zy_m9_min (by omega) (by omega) (by omega)) (by omega)) (by first | omega | exact ht | (rw [t0]; omega) | (rw [t1]; omega) | (rw [t2]; omega) | (rw [t3]; omega) | (intro j hj; rw [(hC _ _ (by first | (dsimp only; omega) | omega))]; exact ht j hj)) t0 t1 t2 t3 hP hS (lv_sub hl [0, 1, 2, 3, 4, 5] rfl)
      exact J44 _ (σ ((h0 + 1) + 15 + 1 * j6) 1) 0 σ _ _ _ (Nat.lt_succ_self _) hC (by first | omega | exact ht | (rw [t0]; omega) | (rw [t1]; omega) | (rw [t2]; omega) | (rw [t3]; omega) | (intro j hj; rw [(hC _ _ (by first | (dsimp only; omega) | omega))]; exact ht j hj)) (by rw [show (0 : Int32).toInt.toNat = 0 from by decide]; exact hf0) (by first | omega | exact ht | (rw [t0]; omega) | (rw [t1]; omega) | (rw [t2]; omega) | (rw [t3]; omega) | (intro j hj; rw [(hC _ _ (by first | (dsimp only; omega) | omega))]; exact ht j hj)) t0 t1 t2 t3 hP hS (lv_sub hl [0, 1, 2, 3, 4, 5] rfl)
    · have c5 := zz_eqT c5
      refine lv_aload_n hx hb dX8_then_19 rfl (lv_at hl 0 rfl) ?_
      refine lv_iconst (v := 1) hx hb dX8_then_20 (by decide) ?_
      refine zz_callVi (As := [.int 1]) (rest := []) ⟨hx, hb, hml, hown, hts⟩ hK hP hS (c_X8_refuse l E σ h0 1 g0 (by omega)) (cwV 1 hts gX8_then_X8_refuse rfl rfl rfl (by decide +kernel) ⟨Nat.le_of_ble_eq_true rfl, Nat.le_of_ble_eq_true rfl⟩) (g0.1) rfl rfl hl.1 rfl (Nat.le_of_ble_eq_true rfl) dX8_then_21 ⟨Nat.zero_le _, Nat.zero_le _⟩ (fun r14 σ14 H locs q14 hP1 hS1 => ?_)
      replace hP := hP1
      replace hS := hS1
      clear hP1 hS1
      try dsimp only at q14
      obtain ⟨w14, f14⟩ := q14
      replace hC := hC.tr (w14.mono (dS14_1 h0))
      replace t0 : σ14 (h0 + 1) 0 = σ (h0 + 1) 0 := (w14 (h0 + 1) 0 (dS14_2 h0)).trans t0
      replace t1 : σ14 (h0 + 1) 1 = σ (h0 + 1) 1 := (w14 (h0 + 1) 1 (dS14_2 h0)).trans t1
      replace t2 : σ14 (h0 + 1) 4 = σ (h0 + 1) 4 := (w14 (h0 + 1) 4 (dS14_2 h0)).trans t2
      replace t3 : σ14 (h0 + 1) 6 = σ (h0 + 1) 6 := (w14 (h0 + 1) 6 (dS14_2 h0)).trans t3
      exact zz_iret hx hb hr hlocks hK hP hS dX8_then_24 (by exact ⟨hC, Or.inl ⟨by omega, by omega⟩⟩)
theorem gX8_first_X8_isMatter : GoodIn wzX8_first (va_wsS RX8 204 yX8_isMatter wzX8_isMatter) := wz_co bm_637 (wz_co bm_345 (wz_co bm_2 (wz_in bm_346)))
theorem gX8_first_X8_within : GoodIn wzX8_first (va_wsS RX8 64 yX8_within wzX8_within) := wz_co bm_112 (wz_co bm_113 (wz_co bm_2 (wz_in bm_114)))
theorem gX8_first_X8_refuse : GoodIn wzX8_first (wsV RX8 68 RX8 yX8_refuse wzX8_refuse) := wz_co bm_118 (wz_co bm_119 (wz_co bm_120 (wz_co bm_2 (wz_in bm_121))))
theorem gX8_first_X4_look : GoodIn wzX8_first (wsV RX8 139 RX4 yX4_look wzX4_look) := wz_co bm_333 (wz_co bm_334 (wz_co bm_335 (wz_co bm_30 (wz_in bm_336))))
theorem gX8_first_X4_under : GoodIn wzX8_first (wsV RX8 207 RX4 yX4_under wzX4_under) := wz_co bm_638 (wz_co bm_639 (wz_co bm_640 (wz_co bm_30 (wz_in bm_641))))
set_option maxHeartbeats 4000000 in
set_option maxRecDepth 100000 in
theorem c_X8_first (l : Launch) (E : zz_E) (σ : zz_S) (h0 : Nat) (mt : Int32) (ru : Int32) (g0 : zz_L E h0) (hI : zz_IX σ h0) (K : zy_W) (hW : zy_XW σ (h0 + 1) K) : Met l yX8_first wzX8_first ({ frames := 5, cells := 0, slots := 0, locals := 121 }) (va_Pc [.ref h0, .int mt, .int ru] (zz_B E σ)) (va_Qi (fun r σ1 => zz_ch (fun a k => a = h0 + 24 ∨ a = h0 + 27 ∨ (h0 + 58 ≤ a ∧ a ≤ h0 + 67)) σ σ1 ∧ (zy_p21 K (σ (h0 + 1) 0).toInt mt.toInt ru.toInt r)) (zz_B E) (zz_A E)) 0 0 (zz_A E) := by
  refine zz_met (cc := cX8_first) (maxL := 4) (ret := (some .int)) (by decide) rfl (Nat.le_of_ble_eq_true rfl) ?_
  intro p e s m args below meth c ls hx hb hr hts hown hlocks hml hK hP hS hl
  have hl : lv_has ls 4 [(0, .ref h0), (1, .int mt), (2, .int ru)] := hl
  have hown : s.vm.findClass RX8 = some m.cls := hown
  have hi2 : ∀ w ∈ wsX20, w ∈ wzX8_first := fun w h => List.mem_cons_of_mem _ (hbw2 w h)
  have hi8 : ∀ w ∈ wsX80, w ∈ wzX8_first := fun w h => List.mem_cons_of_mem _ (hbw8 w h)
  have k_m1 : ((-1) : Int32).toInt = -1 := by decide +kernel
  have k_0 : (0 : Int32).toInt = 0 := by decide +kernel
  have k_1 : (1 : Int32).toInt = 1 := by decide +kernel
  have k_2 : (2 : Int32).toInt = 2 := by decide +kernel
  have k_240 : (240 : Int32).toInt = 240 := by decide +kernel
  replace t0 : σ (h0 + 1) 0 = σ (h0 + 1) 0 := rfl
  replace t1 : σ (h0 + 1) 1 = σ (h0 + 1) 1 := rfl
  replace t2 : σ (h0 + 1) 4 = σ (h0 + 1) 4 := rfl
  replace t3 : σ (h0 + 1) 6 = σ (h0 + 1) 6 := rfl
  have hC : zz_ch (fun a k => a = h0 + 24 ∨ a = h0 + 27 ∨ (h0 + 58 ≤ a ∧ a ≤ h0 + 67)) σ σ := zz_ch.rf σ
  obtain ⟨⟨hh, hsl, hd, hp, htc, hwc, ht, hft, hst, hid⟩, hkI, hsh, hspk⟩ := id hI
  have hct := hW.2.1
  have hlt := hW.2.2.1
  obtain ⟨X9, hX9⟩ : ∃ X : Int, zz_hid (zy_fi (fun i => zy_u K ((σ (h0 + 1) 0).toInt + (i : Int)) mt.toInt = ru.toInt) 241 0 = X) := ⟨_, rfl⟩
  refine lv_iload_n hx hb dX8_first_0 rfl (lv_at hl 1 rfl) ?_
  refine zz_callSp (As := [.int mt]) (rest := []) ⟨hx, hb, hml, hown, hts⟩ hK hP hS (c_X8_isMatter l E σ mt) (va_cwS 1 hts gX8_first_X8_isMatter rfl rfl rfl (by decide +kernel) ⟨Nat.le_of_ble_eq_true rfl, Nat.le_of_ble_eq_true rfl⟩) rfl hl.1 rfl (Nat.le_of_ble_eq_true rfl) dX8_first_1 ⟨Nat.zero_le _, Nat.zero_le _⟩ (fun r1 H locs f1 hP1 hS1 => ?_)
  replace hP := hP1
  replace hS := hS1
  clear hP1 hS1
  refine lv_if_eq (tgt := 16) hx hb dX8_first_4 (by decide) (fun c2 => ?_) (fun c2 => ?_)
  · have c2 := zz_eqT c2
    refine lv_aload_n hx hb dX8_first_16 rfl (lv_at hl 0 rfl) ?_
    refine lv_iconst (v := 1) hx hb dX8_first_17 (by decide) ?_
    refine zz_callVi (As := [.int 1]) (rest := []) ⟨hx, hb, hml, hown, hts⟩ hK hP hS (c_X8_refuse l E σ h0 1 g0 (by omega)) (cwV 1 hts gX8_first_X8_refuse rfl rfl rfl (by decide +kernel) ⟨Nat.le_of_ble_eq_true rfl, Nat.le_of_ble_eq_true rfl⟩) (g0.1) rfl rfl hl.1 rfl (Nat.le_of_ble_eq_true rfl) dX8_first_18 ⟨Nat.zero_le _, Nat.zero_le _⟩ (fun r3 σ3 H locs q3 hP1 hS1 => ?_)
    replace hP := hP1
    replace hS := hS1
    clear hP1 hS1
    try dsimp only at q3
    obtain ⟨w3, f3⟩ := q3
    replace hC := hC.tr (w3.mono (dS14_1 h0))
    replace t0 : σ3 (h0 + 1) 0 = σ (h0 + 1) 0 := (w3 (h0 + 1) 0 (dS14_2 h0)).trans t0
    replace t1 : σ3 (h0 + 1) 1 = σ (h0 + 1) 1 := (w3 (h0 + 1) 1 (dS14_2 h0)).trans t1
    replace t2 : σ3 (h0 + 1) 4 = σ (h0 + 1) 4 := (w3 (h0 + 1) 4 (dS14_2 h0)).trans t2
    replace t3 : σ3 (h0 + 1) 6 = σ (h0 + 1) 6 := (w3 (h0 + 1) 6 (dS14_2 h0)).trans t3
    exact zz_iret hx hb hr hlocks hK hP hS dX8_first_21 (by exact ⟨hC, Or.inl ⟨by omega, by omega⟩⟩)
  · have c2 := zz_neT c2
    refine lv_iload_n hx hb dX8_first_7 rfl (lv_at hl 2 rfl) ?_
    refine lv_iconst (v := (-1)) hx hb dX8_first_8 (by decide) ?_
    refine lv_iconst (v := 1) hx hb dX8_first_9 (by decide) ?_
    refine zz_callSp (As := [.int ru, .int (-1), .int 1]) (rest := []) ⟨hx, hb, hml, hown, hts⟩ hK hP hS (c_X8_within l E σ ru (-1) 1) (va_cwS 3 hts gX8_first_X8_within rfl rfl rfl (by decide +kernel) ⟨Nat.le_of_ble_eq_true rfl, Nat.le_of_ble_eq_true rfl⟩) rfl hl.1 rfl (Nat.le_of_ble_eq_true rfl) dX8_first_10 ⟨Nat.zero_le _, Nat.zero_le _⟩ (fun r4 H locs f4 hP1 hS1 => ?_)
    replace hP := hP1
    replace hS := hS1
    clear hP1 hS1
    refine lv_if_ne (tgt := 22) hx hb dX8_first_13 (by decide) (fun c5 => ?_) (fun c5 => ?_)
    · have c5 := zz_neT c5
      refine lv_iconst (v := 0) hx hb dX8_first_22 (by decide) ?_
      refine lv_istore_n (lv' := [(3, .int 0), (0, .ref h0), (1, .int mt), (2, .int ru)]) hx hb dX8_first_23 rfl hl (by decide) rfl (fun ls hl => ?_)
      have J24 : ∀ (n : Nat) (ii : Int32) (σa : zz_S) (H : Heap) (locs : List Loc) (ls : Array Slot), ((241 - ii.toInt).toNat) < n → (zz_ch (fun a k => a = h0 + 24 ∨ a = h0 + 27 ∨ (h0 + 58 ≤ a ∧ a ≤ h0 + 67)) σ σa) → (0 ≤ ii.toInt ∧ ii.toInt ≤ 241) → (zz_hid (zy_fi (fun i => zy_u K ((σ (h0 + 1) 0).toInt + (i : Int)) mt.toInt = ru.toInt) (241 - ii.toInt.toNat) ii.toInt.toNat = X9)) → (σa (h0 + 1) 0 = σ (h0 + 1) 0) → (σa (h0 + 1) 1 = σ (h0 + 1) 1) → (σa (h0 + 1) 4 = σ (h0 + 1) 4) → (σa (h0 + 1) 6 = σ (h0 + 1) 6) → zz_P E σa H → va_S (zz_A E) s.heap H locs → lv_has ls 4 [(3, .int ii), (0, .ref h0), (1, .int mt), (2, .int ru)] → W p l e (headSpec wzX8_first ({ frames := 5, cells := 0, slots := 0, locals := 121 })).room s m args below meth c H locs 0 0 (MQ below (va_Qi (fun r σ1 => zz_ch (fun a k => a = h0 + 24 ∨ a = h0 + 27 ∨ (h0 + 58 ≤ a ∧ a ≤ h0 + 67)) σ σ1 ∧ (zy_p21 K (σ (h0 + 1) 0).toInt mt.toInt ru.toInt r)) (zz_B E) (zz_A E)) args s 0 0 (zz_A E)) (F0 m 24 ls []) := by
        intro n
        induction n with
        | zero => intro ii σa H locs ls hm; exact absurd hm (Nat.not_lt_zero _)
        | succ n ih24 =>
          intro ii σa H locs ls hm hC f24_0 f24_1 t0 t1 t2 t3 hP hS hl
          refine lv_iload_n hx hb dX8_first_24 rfl (lv_at hl 0 rfl) ?_
          refine lv_sipush (v := 240) hx hb dX8_first_25 (by decide) ?_
          refine lv_icmp_gt (tgt := 71) hx hb dX8_first_28 (by decide) (fun c6 => ?_) (fun c6 => ?_)
          · have c6 := zz_ltT c6
            refine lv_aload_n hx hb dX8_first_71 rfl (lv_at hl 1 rfl) ?_
            refine lv_iconst (v := 2) hx hb dX8_first_72 (by decide) ?_
            refine zz_callVi (As := [.int 2]) (rest := []) ⟨hx, hb, hml, hown, hts⟩ hK hP hS (c_X8_refuse l E σa h0 2 g0 (by omega)) (cwV 1 hts gX8_first_X8_refuse rfl rfl rfl (by decide +kernel) ⟨Nat.le_of_ble_eq_true rfl, Nat.le_of_ble_eq_true rfl⟩) (g0.1) rfl rfl hl.1 rfl (Nat.le_of_ble_eq_true rfl) dX8_first_73 ⟨Nat.zero_le _, Nat.zero_le _⟩ (fun r7 σ7 H locs q7 hP1 hS1 => ?_)
            replace hP := hP1
            replace hS := hS1
            clear hP1 hS1
            try dsimp only at q7
            obtain ⟨w7, f7⟩ := q7
            replace hC := hC.tr (w7.mono (dS14_1 h0))
            replace t0 : σ7 (h0 + 1) 0 = σ (h0 + 1) 0 := (w7 (h0 + 1) 0 (dS14_2 h0)).trans t0
            replace t1 : σ7 (h0 + 1) 1 = σ (h0 + 1) 1 := (w7 (h0 + 1) 1 (dS14_2 h0)).trans t1
            replace t2 : σ7 (h0 + 1) 4 = σ (h0 + 1) 4 := (w7 (h0 + 1) 4 (dS14_2 h0)).trans t2
            replace t3 : σ7 (h0 + 1) 6 = σ (h0 + 1) 6 := (w7 (h0 + 1) 6 (dS14_2 h0)).trans t3
            have g := zy_fi_end f24_1 (by omega)
            exact zz_iret hx hb hr hlocks hK hP hS dX8_first_76 (by exact ⟨hC, Or.inr ⟨by omega, (show r7.toInt = X9 by omega).trans (show _ = X9 from hX9).symm⟩⟩)
          · have c6 := zz_nltT c6
            refine lv_aload_n hx hb dX8_first_31 rfl (lv_at hl 1 rfl) ?_
            refine zz_getr hx hb hts hi8 hown hK hP (g0.1) rfl 6 (by decide) (hts (.fieldLink RX8 42 "NoonLaw" "sight" "LNoonLaw$Sight;") (List.mem_cons_of_mem _ bm_31)) rfl rfl dX8_first_32 ?_
            refine lv_aload_n hx hb dX8_first_35 rfl (lv_at hl 1 rfl) ?_
            refine zz_getr hx hb hts hi8 hown hK hP (g0.1) rfl 0 (by decide) (hts (.fieldLink RX8 10 "NoonLaw" "realm" "LNoonLaw$Realm;") (List.mem_cons_of_mem _ bm_16)) rfl rfl dX8_first_36 ?_
            refine lv_aload_n hx hb dX8_first_39 rfl (lv_at hl 1 rfl) ?_
            refine zz_getr hx hb hts hi8 hown hK hP (g0.1) rfl 0 (by decide) (hts (.fieldLink RX8 10 "NoonLaw" "realm" "LNoonLaw$Realm;") (List.mem_cons_of_mem _ bm_16)) rfl rfl dX8_first_40 ?_
            refine zz_geti hx hb hts hi2 hown hK hP (g0.2.1.1) rfl 0 (by decide) (hts (.fieldLink RX8 104 "NoonLaw$Realm" "hour" "I") (List.mem_cons_of_mem _ bm_166)) rfl rfl t0 dX8_first_43 ?_
            refine lv_iload_n hx hb dX8_first_46 rfl (lv_at hl 0 rfl) ?_
            refine lv_iadd hx hb dX8_first_47 ?_
            refine lv_topi (fun n8 e8 => ?_)
            have f8 : n8.toInt = (σ (h0 + 1) 0).toInt + (ii).toInt := zz_addT e8 (by omega) (by omega)
            refine zz_callVv (As := [.ref (h0 + 1), .int n8]) (rest := []) ⟨hx, hb, hml, hown, hts⟩ hK hP hS (c_X4_look l E σa (h0 + 61) (h0 + 1) n8 (g0.2.2.2.2.2.2.2.1) (g0.2.1) (by rw [t2]; exact hd) (by intro j hj; rw [(hC _ _ (by first | (dsimp only; omega) | omega))]; exact ht j hj) (by omega) (by first | omega | exact ht | (rw [t0]; omega) | (rw [t1]; omega) | (rw [t2]; omega) | (rw [t3]; omega) | (intro j hj; rw [(hC _ _ (by first | (dsimp only; omega) | omega))]; exact ht j hj)) K (by exact hW.keep (fun a k q => hC a k (by first | (dsimp only; omega) | omega)))) (cwV 2 hts gX8_first_X4_look rfl rfl rfl (by decide +kernel) ⟨Nat.le_of_ble_eq_true rfl, Nat.le_of_ble_eq_true rfl⟩) (g0.2.2.2.2.2.2.2.1.1) rfl rfl hl.1 rfl (Nat.le_of_ble_eq_true rfl) dX8_first_48 ⟨Nat.zero_le _, Nat.zero_le _⟩ (fun σ9 H locs q9 hP1 hS1 => ?_)
            replace hP := hP1
            replace hS := hS1
            clear hP1 hS1
            try dsimp only at q9
            obtain ⟨w9, f9⟩ := q9
            replace hC := hC.tr (w9.mono (dS14_3 h0))
            try simp only [t0, t1, t2, t3] at f9
            replace t0 : σ9 (h0 + 1) 0 = σ (h0 + 1) 0 := (w9 (h0 + 1) 0 (dS14_4 h0)).trans t0
            replace t1 : σ9 (h0 + 1) 1 = σ (h0 + 1) 1 := (w9 (h0 + 1) 1 (dS14_4 h0)).trans t1
            replace t2 : σ9 (h0 + 1) 4 = σ (h0 + 1) 4 := (w9 (h0 + 1) 4 (dS14_4 h0)).trans t2
            replace t3 : σ9 (h0 + 1) 6 = σ (h0 + 1) 6 := (w9 (h0 + 1) 6 (dS14_4 h0)).trans t3
            refine lv_aload_n hx hb dX8_first_51 rfl (lv_at hl 1 rfl) ?_
            refine zz_getr hx hb hts hi8 hown hK hP (g0.1) rfl 6 (by decide) (hts (.fieldLink RX8 42 "NoonLaw" "sight" "LNoonLaw$Sight;") (List.mem_cons_of_mem _ bm_31)) rfl rfl dX8_first_52 ?_
            refine lv_iload_n hx hb dX8_first_55 rfl (lv_at hl 2 rfl) ?_
            refine zz_callVp (As := [.int mt]) (rest := []) ⟨hx, hb, hml, hown, hts⟩ hK hP hS (c_X4_under l E σ9 (h0 + 61) mt (g0.2.2.2.2.2.2.2.1) K n8.toInt (by exact f9) (by first | omega | exact ht | (rw [t0]; omega) | (rw [t1]; omega) | (rw [t2]; omega) | (rw [t3]; omega) | (intro j hj; rw [(hC _ _ (by first | (dsimp only; omega) | omega))]; exact ht j hj))) (cwV 1 hts gX8_first_X4_under rfl rfl rfl (by decide +kernel) ⟨Nat.le_of_ble_eq_true rfl, Nat.le_of_ble_eq_true rfl⟩) (g0.2.2.2.2.2.2.2.1.1) rfl rfl hl.1 rfl (Nat.le_of_ble_eq_true rfl) dX8_first_56 ⟨Nat.zero_le _, Nat.zero_le _⟩ (fun r10 H locs f10 hP1 hS1 => ?_)
            replace hP := hP1
            replace hS := hS1
            clear hP1 hS1
            have hu9 : zy_u K ((σ (h0 + 1) 0).toInt + ((ii.toInt.toNat : Nat) : Int)) mt.toInt = r10.toInt := by rw [f10]; exact congrArg (fun q => zy_u K q mt.toInt) (by omega)
            refine lv_iload_n hx hb dX8_first_59 rfl (lv_at hl 3 rfl) ?_
            refine lv_icmp_ne (tgt := 65) hx hb dX8_first_60 (by decide) (fun c11 => ?_) (fun c11 => ?_)
            · have c11 := zz_neT c11
              obtain ⟨n12, e12⟩ : ∃ y : Int32, y = ii + 1 := ⟨_, rfl⟩
              have f12 : n12.toInt = (ii).toInt + (1) := by have h9 := zz_addT e12 (by omega) (by omega); omega
              refine lv_iinc (v := n12) (lv' := [(3, .int n12), (0, .ref h0), (1, .int mt), (2, .int ru)]) hx hb dX8_first_65 hl (k := 0) rfl (by rw [e12]; rfl) (by decide) rfl (fun ls hl => ?_)
              refine lv_goto (tgt := 24) hx hb dX8_first_68 (by decide) ?_
              exact ih24 n12 σ9 _ _ _ (by omega) hC (by first | omega | exact ht | (rw [t0]; omega) | (rw [t1]; omega) | (rw [t2]; omega) | (rw [t3]; omega) | (intro j hj; rw [(hC _ _ (by first | (dsimp only; omega) | omega))]; exact ht j hj)) (by exact zy_fi_go (P := (fun i => zy_u K ((σ (h0 + 1) 0).toInt + (i : Int)) mt.toInt = ru.toInt)) (show ¬ (zy_u K ((σ (h0 + 1) 0).toInt + ((ii.toInt.toNat : Nat) : Int)) mt.toInt = ru.toInt) by rw [hu9]; omega) f24_1 (by omega) (by omega)) t0 t1 t2 t3 hP hS (lv_sub hl [0, 1, 2, 3] rfl)
            · have c11 := zz_eqT c11
              refine lv_iload_n hx hb dX8_first_63 rfl (lv_at hl 0 rfl) ?_
              have g := zy_fi_hit (P := (fun i => zy_u K ((σ (h0 + 1) 0).toInt + (i : Int)) mt.toInt = ru.toInt)) (show zy_u K ((σ (h0 + 1) 0).toInt + ((ii.toInt.toNat : Nat) : Int)) mt.toInt = ru.toInt by rw [hu9]; omega) f24_1 (by omega)
              exact zz_iret hx hb hr hlocks hK hP hS dX8_first_64 (by exact ⟨hC, Or.inr ⟨by omega, (show ii.toInt = X9 by omega).trans (show _ = X9 from hX9).symm⟩⟩)
      exact J24 _ 0 σ _ _ _ (Nat.lt_succ_self _) hC (by first | omega | exact ht | (rw [t0]; omega) | (rw [t1]; omega) | (rw [t2]; omega) | (rw [t3]; omega) | (intro j hj; rw [(hC _ _ (by first | (dsimp only; omega) | omega))]; exact ht j hj)) (by exact (zy_fi_0 (by omega)).trans hX9) t0 t1 t2 t3 hP hS (lv_sub hl [0, 1, 2, 3] rfl)
    · have c5 := zz_eqT c5
      refine lv_aload_n hx hb dX8_first_16 rfl (lv_at hl 0 rfl) ?_
      refine lv_iconst (v := 1) hx hb dX8_first_17 (by decide) ?_
      refine zz_callVi (As := [.int 1]) (rest := []) ⟨hx, hb, hml, hown, hts⟩ hK hP hS (c_X8_refuse l E σ h0 1 g0 (by omega)) (cwV 1 hts gX8_first_X8_refuse rfl rfl rfl (by decide +kernel) ⟨Nat.le_of_ble_eq_true rfl, Nat.le_of_ble_eq_true rfl⟩) (g0.1) rfl rfl hl.1 rfl (Nat.le_of_ble_eq_true rfl) dX8_first_18 ⟨Nat.zero_le _, Nat.zero_le _⟩ (fun r13 σ13 H locs q13 hP1 hS1 => ?_)
      replace hP := hP1
      replace hS := hS1
      clear hP1 hS1
      try dsimp only at q13
      obtain ⟨w13, f13⟩ := q13
      replace hC := hC.tr (w13.mono (dS14_1 h0))
      replace t0 : σ13 (h0 + 1) 0 = σ (h0 + 1) 0 := (w13 (h0 + 1) 0 (dS14_2 h0)).trans t0
      replace t1 : σ13 (h0 + 1) 1 = σ (h0 + 1) 1 := (w13 (h0 + 1) 1 (dS14_2 h0)).trans t1
      replace t2 : σ13 (h0 + 1) 4 = σ (h0 + 1) 4 := (w13 (h0 + 1) 4 (dS14_2 h0)).trans t2
      replace t3 : σ13 (h0 + 1) 6 = σ (h0 + 1) 6 := (w13 (h0 + 1) 6 (dS14_2 h0)).trans t3
      exact zz_iret hx hb hr hlocks hK hP hS dX8_first_21 (by exact ⟨hC, Or.inl ⟨by omega, by omega⟩⟩)
theorem gX8_siestas_X8_within : GoodIn wzX8_siestas (va_wsS RX8 64 yX8_within wzX8_within) := wz_co bm_112 (wz_co bm_113 (wz_co bm_2 (wz_in bm_114)))
theorem gX8_siestas_X8_refuse : GoodIn wzX8_siestas (wsV RX8 68 RX8 yX8_refuse wzX8_refuse) := wz_co bm_118 (wz_co bm_119 (wz_co bm_120 (wz_co bm_2 (wz_in bm_121))))
theorem gX8_siestas_X4_look : GoodIn wzX8_siestas (wsV RX8 139 RX4 yX4_look wzX4_look) := wz_co bm_333 (wz_co bm_334 (wz_co bm_335 (wz_co bm_30 (wz_in bm_336))))
set_option maxHeartbeats 4000000 in
set_option maxRecDepth 100000 in
theorem c_X8_siestas (l : Launch) (E : zz_E) (σ : zz_S) (h0 : Nat) (nn : Int32) (g0 : zz_L E h0) (hI : zz_IX σ h0) (K : zy_W) (hW : zy_XW σ (h0 + 1) K) : Met l yX8_siestas wzX8_siestas ({ frames := 5, cells := 0, slots := 0, locals := 121 }) (va_Pc [.ref h0, .int nn] (zz_B E σ)) (va_Qi (fun r σ1 => zz_ch (fun a k => a = h0 + 24 ∨ a = h0 + 27 ∨ (h0 + 58 ≤ a ∧ a ≤ h0 + 67)) σ σ1 ∧ (zy_p22 K (σ (h0 + 1) 0).toInt nn.toInt r)) (zz_B E) (zz_A E)) 0 0 (zz_A E) := by
  refine zz_met (cc := cX8_siestas) (maxL := 4) (ret := (some .int)) (by decide) rfl (Nat.le_of_ble_eq_true rfl) ?_
  intro p e s m args below meth c ls hx hb hr hts hown hlocks hml hK hP hS hl
  have hl : lv_has ls 4 [(0, .ref h0), (1, .int nn)] := hl
  have hown : s.vm.findClass RX8 = some m.cls := hown
  have hi2 : ∀ w ∈ wsX20, w ∈ wzX8_siestas := fun w h => List.mem_cons_of_mem _ (hbw2 w h)
  have hi4 : ∀ w ∈ wsX40, w ∈ wzX8_siestas := fun w h => List.mem_cons_of_mem _ (hbw4 w h)
  have hi8 : ∀ w ∈ wsX80, w ∈ wzX8_siestas := fun w h => List.mem_cons_of_mem _ (hbw8 w h)
  have k_0 : (0 : Int32).toInt = 0 := by decide +kernel
  have k_1 : (1 : Int32).toInt = 1 := by decide +kernel
  have k_240 : (240 : Int32).toInt = 240 := by decide +kernel
  replace t0 : σ (h0 + 1) 0 = σ (h0 + 1) 0 := rfl
  replace t1 : σ (h0 + 1) 1 = σ (h0 + 1) 1 := rfl
  replace t2 : σ (h0 + 1) 4 = σ (h0 + 1) 4 := rfl
  replace t3 : σ (h0 + 1) 6 = σ (h0 + 1) 6 := rfl
  have hC : zz_ch (fun a k => a = h0 + 24 ∨ a = h0 + 27 ∨ (h0 + 58 ≤ a ∧ a ≤ h0 + 67)) σ σ := zz_ch.rf σ
  obtain ⟨⟨hh, hsl, hd, hp, htc, hwc, ht, hft, hst, hid⟩, hkI, hsh, hspk⟩ := id hI
  have hct := hW.2.1
  have hlt := hW.2.2.1
  refine lv_iload_n hx hb dX8_siestas_0 rfl (lv_at hl 1 rfl) ?_
  refine lv_iconst (v := 0) hx hb dX8_siestas_1 (by decide) ?_
  refine lv_sipush (v := 240) hx hb dX8_siestas_2 (by decide) ?_
  refine zz_callSp (As := [.int nn, .int 0, .int 240]) (rest := []) ⟨hx, hb, hml, hown, hts⟩ hK hP hS (c_X8_within l E σ nn 0 240) (va_cwS 3 hts gX8_siestas_X8_within rfl rfl rfl (by decide +kernel) ⟨Nat.le_of_ble_eq_true rfl, Nat.le_of_ble_eq_true rfl⟩) rfl hl.1 rfl (Nat.le_of_ble_eq_true rfl) dX8_siestas_5 ⟨Nat.zero_le _, Nat.zero_le _⟩ (fun r1 H locs f1 hP1 hS1 => ?_)
  replace hP := hP1
  replace hS := hS1
  clear hP1 hS1
  refine lv_if_ne (tgt := 17) hx hb dX8_siestas_8 (by decide) (fun c2 => ?_) (fun c2 => ?_)
  · have c2 := zz_neT c2
    refine lv_iconst (v := 0) hx hb dX8_siestas_17 (by decide) ?_
    refine lv_istore_n (lv' := [(2, .int 0), (0, .ref h0), (1, .int nn)]) hx hb dX8_siestas_18 rfl hl (by decide) rfl (fun ls hl => ?_)
    refine lv_iconst (v := 0) hx hb dX8_siestas_19 (by decide) ?_
    refine lv_istore_n (lv' := [(3, .int 0), (2, .int 0), (0, .ref h0), (1, .int nn)]) hx hb dX8_siestas_20 rfl hl (by decide) rfl (fun ls hl => ?_)
    have J21 : ∀ (n : Nat) (fd : Int32) (ii : Int32) (σa : zz_S) (H : Heap) (locs : List Loc) (ls : Array Slot), ((241 - ii.toInt).toNat) < n → (zz_ch (fun a k => a = h0 + 24 ∨ a = h0 + 27 ∨ (h0 + 58 ≤ a ∧ a ≤ h0 + 67)) σ σa) → (0 ≤ ii.toInt ∧ ii.toInt ≤ nn.toInt) → (fd.toInt = zy_cn (fun i => 0 < zy_nd K ((σ (h0 + 1) 0).toInt + (i : Int))) ii.toInt.toNat) → (σa (h0 + 1) 0 = σ (h0 + 1) 0) → (σa (h0 + 1) 1 = σ (h0 + 1) 1) → (σa (h0 + 1) 4 = σ (h0 + 1) 4) → (σa (h0 + 1) 6 = σ (h0 + 1) 6) → zz_P E σa H → va_S (zz_A E) s.heap H locs → lv_has ls 4 [(3, .int ii), (2, .int fd), (0, .ref h0), (1, .int nn)] → W p l e (headSpec wzX8_siestas ({ frames := 5, cells := 0, slots := 0, locals := 121 })).room s m args below meth c H locs 0 0 (MQ below (va_Qi (fun r σ1 => zz_ch (fun a k => a = h0 + 24 ∨ a = h0 + 27 ∨ (h0 + 58 ≤ a ∧ a ≤ h0 + 67)) σ σ1 ∧ (zy_p22 K (σ (h0 + 1) 0).toInt nn.toInt r)) (zz_B E) (zz_A E)) args s 0 0 (zz_A E)) (F0 m 21 ls []) := by
      intro n
      induction n with
      | zero => intro fd ii σa H locs ls hm; exact absurd hm (Nat.not_lt_zero _)
      | succ n ih21 =>
        intro fd ii σa H locs ls hm hC f21_0 f21_1 t0 t1 t2 t3 hP hS hl
        have hcr := zy_cn_rng (fun i => 0 < zy_nd K ((σ (h0 + 1) 0).toInt + (i : Int))) ii.toInt.toNat
        refine lv_iload_n hx hb dX8_siestas_21 rfl (lv_at hl 0 rfl) ?_
        refine lv_iload_n hx hb dX8_siestas_22 rfl (lv_at hl 3 rfl) ?_
        refine lv_icmp_ge (tgt := 65) hx hb dX8_siestas_23 (by decide) (fun c3 => ?_) (fun c3 => ?_)
        · have c3 := zz_leT c3
          refine lv_iload_n hx hb dX8_siestas_65 rfl (lv_at hl 1 rfl) ?_
          exact zz_iret hx hb hr hlocks hK hP hS dX8_siestas_66 (by exact ⟨hC, Or.inr ⟨by omega, by rw [f21_1, show ii.toInt.toNat = nn.toInt.toNat from by omega]⟩⟩)
        · have c3 := zz_nleT c3
          refine lv_aload_n hx hb dX8_siestas_26 rfl (lv_at hl 2 rfl) ?_
          refine zz_getr hx hb hts hi8 hown hK hP (g0.1) rfl 6 (by decide) (hts (.fieldLink RX8 42 "NoonLaw" "sight" "LNoonLaw$Sight;") (List.mem_cons_of_mem _ bm_31)) rfl rfl dX8_siestas_27 ?_
          refine lv_aload_n hx hb dX8_siestas_30 rfl (lv_at hl 2 rfl) ?_
          refine zz_getr hx hb hts hi8 hown hK hP (g0.1) rfl 0 (by decide) (hts (.fieldLink RX8 10 "NoonLaw" "realm" "LNoonLaw$Realm;") (List.mem_cons_of_mem _ bm_16)) rfl rfl dX8_siestas_31 ?_
          refine lv_aload_n hx hb dX8_siestas_34 rfl (lv_at hl 2 rfl) ?_
          refine zz_getr hx hb hts hi8 hown hK hP (g0.1) rfl 0 (by decide) (hts (.fieldLink RX8 10 "NoonLaw" "realm" "LNoonLaw$Realm;") (List.mem_cons_of_mem _ bm_16)) rfl rfl dX8_siestas_35 ?_
          refine zz_geti hx hb hts hi2 hown hK hP (g0.2.1.1) rfl 0 (by decide) (hts (.fieldLink RX8 104 "NoonLaw$Realm" "hour" "I") (List.mem_cons_of_mem _ bm_166)) rfl rfl t0 dX8_siestas_38 ?_
          refine lv_iload_n hx hb dX8_siestas_41 rfl (lv_at hl 0 rfl) ?_
          refine lv_iadd hx hb dX8_siestas_42 ?_
          refine lv_topi (fun n4 e4 => ?_)
          have f4 : n4.toInt = (σ (h0 + 1) 0).toInt + (ii).toInt := zz_addT e4 (by omega) (by omega)
          refine zz_callVv (As := [.ref (h0 + 1), .int n4]) (rest := []) ⟨hx, hb, hml, hown, hts⟩ hK hP hS (c_X4_look l E σa (h0 + 61) (h0 + 1) n4 (g0.2.2.2.2.2.2.2.1) (g0.2.1) (by rw [t2]; exact hd) (by intro j hj; rw [(hC _ _ (by first | (dsimp only; omega) | omega))]; exact ht j hj) (by omega) (by first | omega | exact ht | (rw [t0]; omega) | (rw [t1]; omega) | (rw [t2]; omega) | (rw [t3]; omega) | (intro j hj; rw [(hC _ _ (by first | (dsimp only; omega) | omega))]; exact ht j hj)) K (by exact hW.keep (fun a k q => hC a k (by first | (dsimp only; omega) | omega)))) (cwV 2 hts gX8_siestas_X4_look rfl rfl rfl (by decide +kernel) ⟨Nat.le_of_ble_eq_true rfl, Nat.le_of_ble_eq_true rfl⟩) (g0.2.2.2.2.2.2.2.1.1) rfl rfl hl.1 rfl (Nat.le_of_ble_eq_true rfl) dX8_siestas_43 ⟨Nat.zero_le _, Nat.zero_le _⟩ (fun σ5 H locs q5 hP1 hS1 => ?_)
          replace hP := hP1
          replace hS := hS1
          clear hP1 hS1
          try dsimp only at q5
          obtain ⟨w5, f5⟩ := q5
          replace hC := hC.tr (w5.mono (dS14_3 h0))
          try simp only [t0, t1, t2, t3] at f5
          replace t0 : σ5 (h0 + 1) 0 = σ (h0 + 1) 0 := (w5 (h0 + 1) 0 (dS14_4 h0)).trans t0
          replace t1 : σ5 (h0 + 1) 1 = σ (h0 + 1) 1 := (w5 (h0 + 1) 1 (dS14_4 h0)).trans t1
          replace t2 : σ5 (h0 + 1) 4 = σ (h0 + 1) 4 := (w5 (h0 + 1) 4 (dS14_4 h0)).trans t2
          replace t3 : σ5 (h0 + 1) 6 = σ (h0 + 1) 6 := (w5 (h0 + 1) 6 (dS14_4 h0)).trans t3
          refine lv_aload_n hx hb dX8_siestas_46 rfl (lv_at hl 2 rfl) ?_
          refine zz_getr hx hb hts hi8 hown hK hP (g0.1) rfl 6 (by decide) (hts (.fieldLink RX8 42 "NoonLaw" "sight" "LNoonLaw$Sight;") (List.mem_cons_of_mem _ bm_31)) rfl rfl dX8_siestas_47 ?_
          refine zz_geti hx hb hts hi4 hown hK hP (g0.2.2.2.2.2.2.2.1.1) rfl 3 (by decide) (hts (.fieldLink RX8 219 "NoonLaw$Sight" "disputed" "I") (List.mem_cons_of_mem _ bm_656)) rfl rfl rfl dX8_siestas_50 ?_
          have hd9 := f5.nd.2
          rw [show n4.toInt = (σ (h0 + 1) 0).toInt + ((ii.toInt.toNat : Nat) : Int) from by omega] at hd9
          have hn9 := zy_nd_rng K ((σ (h0 + 1) 0).toInt + ((ii.toInt.toNat : Nat) : Int))
          refine lv_if_eq (tgt := 59) hx hb dX8_siestas_53 (by decide) (fun c6 => ?_) (fun c6 => ?_)
          · have c6 := zz_eqT c6
            obtain ⟨n7, e7⟩ : ∃ y : Int32, y = ii + 1 := ⟨_, rfl⟩
            have f7 : n7.toInt = (ii).toInt + (1) := by have h9 := zz_addT e7 (by omega) (by omega); omega
            refine lv_iinc (v := n7) (lv' := [(3, .int n7), (2, .int fd), (0, .ref h0), (1, .int nn)]) hx hb dX8_siestas_59 hl (k := 0) rfl (by rw [e7]; rfl) (by decide) rfl (fun ls hl => ?_)
            refine lv_goto (tgt := 21) hx hb dX8_siestas_62 (by decide) ?_
            exact ih21 fd n7 σ5 _ _ _ (by omega) hC (by first | omega | exact ht | (rw [t0]; omega) | (rw [t1]; omega) | (rw [t2]; omega) | (rw [t3]; omega) | (intro j hj; rw [(hC _ _ (by first | (dsimp only; omega) | omega))]; exact ht j hj)) (by rw [show n7.toInt.toNat = ii.toInt.toNat + 1 from by omega]; rw [zy_cn_0 (P := (fun i => 0 < zy_nd K ((σ (h0 + 1) 0).toInt + (i : Int)))) (show ¬ (0 < zy_nd K ((σ (h0 + 1) 0).toInt + ((ii.toInt.toNat : Nat) : Int))) from by omega)]; omega) t0 t1 t2 t3 hP hS (lv_sub hl [0, 1, 2, 3] rfl)
          · have c6 := zz_neT c6
            skip
            obtain ⟨n8, e8⟩ : ∃ y : Int32, y = fd + 1 := ⟨_, rfl⟩
            have f8 : n8.toInt = (fd).toInt + (1) := by have h9 := zz_addT e8 (by omega) (by omega); omega
            refine lv_iinc (v := n8) (lv' := [(2, .int n8), (3, .int ii), (0, .ref h0), (1, .int nn)]) hx hb dX8_siestas_56 hl (k := 1) rfl (by rw [e8]; rfl) (by decide) rfl (fun ls hl => ?_)
            obtain ⟨n9, e9⟩ : ∃ y : Int32, y = ii + 1 := ⟨_, rfl⟩
            have f9 : n9.toInt = (ii).toInt + (1) := by have h9 := zz_addT e9 (by omega) (by omega); omega
            refine lv_iinc (v := n9) (lv' := [(3, .int n9), (2, .int n8), (0, .ref h0), (1, .int nn)]) hx hb dX8_siestas_59 hl (k := 1) rfl (by rw [e9]; rfl) (by decide) rfl (fun ls hl => ?_)
            refine lv_goto (tgt := 21) hx hb dX8_siestas_62 (by decide) ?_
            exact ih21 n8 n9 σ5 _ _ _ (by omega) hC (by first | omega | exact ht | (rw [t0]; omega) | (rw [t1]; omega) | (rw [t2]; omega) | (rw [t3]; omega) | (intro j hj; rw [(hC _ _ (by first | (dsimp only; omega) | omega))]; exact ht j hj)) (by rw [show n9.toInt.toNat = ii.toInt.toNat + 1 from by omega]; rw [zy_cn_1 (P := (fun i => 0 < zy_nd K ((σ (h0 + 1) 0).toInt + (i : Int)))) (show 0 < zy_nd K ((σ (h0 + 1) 0).toInt + ((ii.toInt.toNat : Nat) : Int)) from by omega)]; omega) t0 t1 t2 t3 hP hS (lv_sub hl [0, 1, 2, 3] rfl)
    exact J21 _ 0 0 σ _ _ _ (Nat.lt_succ_self _) hC (by first | omega | exact ht | (rw [t0]; omega) | (rw [t1]; omega) | (rw [t2]; omega) | (rw [t3]; omega) | (intro j hj; rw [(hC _ _ (by first | (dsimp only; omega) | omega))]; exact ht j hj)) (by rw [show (0 : Int32).toInt.toNat = 0 from by decide, k_0]; rfl) t0 t1 t2 t3 hP hS (lv_sub hl [0, 1, 2, 3] rfl)
  · have c2 := zz_eqT c2
    refine lv_aload_n hx hb dX8_siestas_11 rfl (lv_at hl 0 rfl) ?_
    refine lv_iconst (v := 1) hx hb dX8_siestas_12 (by decide) ?_
    refine zz_callVi (As := [.int 1]) (rest := []) ⟨hx, hb, hml, hown, hts⟩ hK hP hS (c_X8_refuse l E σ h0 1 g0 (by omega)) (cwV 1 hts gX8_siestas_X8_refuse rfl rfl rfl (by decide +kernel) ⟨Nat.le_of_ble_eq_true rfl, Nat.le_of_ble_eq_true rfl⟩) (g0.1) rfl rfl hl.1 rfl (Nat.le_of_ble_eq_true rfl) dX8_siestas_13 ⟨Nat.zero_le _, Nat.zero_le _⟩ (fun r10 σ10 H locs q10 hP1 hS1 => ?_)
    replace hP := hP1
    replace hS := hS1
    clear hP1 hS1
    try dsimp only at q10
    obtain ⟨w10, f10⟩ := q10
    replace hC := hC.tr (w10.mono (dS14_1 h0))
    replace t0 : σ10 (h0 + 1) 0 = σ (h0 + 1) 0 := (w10 (h0 + 1) 0 (dS14_2 h0)).trans t0
    replace t1 : σ10 (h0 + 1) 1 = σ (h0 + 1) 1 := (w10 (h0 + 1) 1 (dS14_2 h0)).trans t1
    replace t2 : σ10 (h0 + 1) 4 = σ (h0 + 1) 4 := (w10 (h0 + 1) 4 (dS14_2 h0)).trans t2
    replace t3 : σ10 (h0 + 1) 6 = σ (h0 + 1) 6 := (w10 (h0 + 1) 6 (dS14_2 h0)).trans t3
    exact zz_iret hx hb hr hlocks hK hP hS dX8_siestas_16 (by exact ⟨hC, Or.inl ⟨by omega, by omega⟩⟩)
theorem gX8_best_X8_within : GoodIn wzX8_best (va_wsS RX8 64 yX8_within wzX8_within) := wz_co bm_112 (wz_co bm_113 (wz_co bm_2 (wz_in bm_114)))
theorem gX8_best_X8_refuse : GoodIn wzX8_best (wsV RX8 68 RX8 yX8_refuse wzX8_refuse) := wz_co bm_118 (wz_co bm_119 (wz_co bm_120 (wz_co bm_2 (wz_in bm_121))))
theorem gX8_best_X8_countRules : GoodIn wzX8_best (wsV RX8 233 RX8 yX8_countRules wzX8_countRules) := wz_co bm_700 (wz_co bm_701 (wz_co bm_702 (wz_co bm_2 (wz_in bm_703))))
theorem dS14_7 (x0 : Nat) : ∀ a k : Nat, (a = (x0) + 24 ∨ a = (x0) + 27 ∨ ((x0) + 58 ≤ a ∧ a ≤ (x0) + 67)) → (a = x0 + 24 ∨ a = x0 + 27 ∨ (x0 + 58 ≤ a ∧ a ≤ x0 + 67)) := by intro a k h; omega
theorem dS14_8 (x0 : Nat) : ¬ ((x0 + 1) = (x0) + 24 ∨ (x0 + 1) = (x0) + 27 ∨ ((x0) + 58 ≤ (x0 + 1) ∧ (x0 + 1) ≤ (x0) + 67)) := by omega
set_option maxHeartbeats 4000000 in
set_option maxRecDepth 100000 in
theorem c_X8_best (l : Launch) (E : zz_E) (σ : zz_S) (h0 : Nat) (nn : Int32) (what : Int32) (g0 : zz_L E h0) (hI : zz_IX σ h0) (K : zy_W) (hW : zy_XW σ (h0 + 1) K) : Met l yX8_best wzX8_best ({ frames := 6, cells := 0, slots := 0, locals := 144 }) (va_Pc [.ref h0, .int nn, .int what] (zz_B E σ)) (va_Qi (fun r σ1 => zz_ch (fun a k => a = h0 + 24 ∨ a = h0 + 27 ∨ (h0 + 58 ≤ a ∧ a ≤ h0 + 67)) σ σ1 ∧ (zy_p23 K (σ (h0 + 1) 0).toInt nn.toInt what.toInt r)) (zz_B E) (zz_A E)) 0 0 (zz_A E) := by
  refine zz_met (cc := cX8_best) (maxL := 6) (ret := (some .int)) (by decide) rfl (Nat.le_of_ble_eq_true rfl) ?_
  intro p e s m args below meth c ls hx hb hr hts hown hlocks hml hK hP hS hl
  have hl : lv_has ls 6 [(0, .ref h0), (1, .int nn), (2, .int what)] := hl
  have hown : s.vm.findClass RX8 = some m.cls := hown
  have hi8 : ∀ w ∈ wsX80, w ∈ wzX8_best := fun w h => List.mem_cons_of_mem _ (hbw8 w h)
  have k_0 : (0 : Int32).toInt = 0 := by decide +kernel
  have k_1 : (1 : Int32).toInt = 1 := by decide +kernel
  have k_10 : (10 : Int32).toInt = 10 := by decide +kernel
  have k_240 : (240 : Int32).toInt = 240 := by decide +kernel
  replace t0 : σ (h0 + 1) 0 = σ (h0 + 1) 0 := rfl
  replace t1 : σ (h0 + 1) 1 = σ (h0 + 1) 1 := rfl
  replace t2 : σ (h0 + 1) 4 = σ (h0 + 1) 4 := rfl
  replace t3 : σ (h0 + 1) 6 = σ (h0 + 1) 6 := rfl
  have hC : zz_ch (fun a k => a = h0 + 24 ∨ a = h0 + 27 ∨ (h0 + 58 ≤ a ∧ a ≤ h0 + 67)) σ σ := zz_ch.rf σ
  obtain ⟨⟨hh, hsl, hd, hp, htc, hwc, ht, hft, hst, hid⟩, hkI, hsh, hspk⟩ := id hI
  have hct := hW.2.1
  have hlt := hW.2.2.1
  refine lv_iload_n hx hb dX8_best_0 rfl (lv_at hl 1 rfl) ?_
  refine lv_iconst (v := 0) hx hb dX8_best_1 (by decide) ?_
  refine lv_sipush (v := 240) hx hb dX8_best_2 (by decide) ?_
  refine zz_callSp (As := [.int nn, .int 0, .int 240]) (rest := []) ⟨hx, hb, hml, hown, hts⟩ hK hP hS (c_X8_within l E σ nn 0 240) (va_cwS 3 hts gX8_best_X8_within rfl rfl rfl (by decide +kernel) ⟨Nat.le_of_ble_eq_true rfl, Nat.le_of_ble_eq_true rfl⟩) rfl hl.1 rfl (Nat.le_of_ble_eq_true rfl) dX8_best_5 ⟨Nat.zero_le _, Nat.zero_le _⟩ (fun r1 H locs f1 hP1 hS1 => ?_)
  replace hP := hP1
  replace hS := hS1
  clear hP1 hS1
  refine lv_if_eq (tgt := 20) hx hb dX8_best_8 (by decide) (fun c2 => ?_) (fun c2 => ?_)
  · have c2 := zz_eqT c2
    refine lv_aload_n hx hb dX8_best_20 rfl (lv_at hl 0 rfl) ?_
    refine lv_iconst (v := 1) hx hb dX8_best_21 (by decide) ?_
    refine zz_callVi (As := [.int 1]) (rest := []) ⟨hx, hb, hml, hown, hts⟩ hK hP hS (c_X8_refuse l E σ h0 1 g0 (by omega)) (cwV 1 hts gX8_best_X8_refuse rfl rfl rfl (by decide +kernel) ⟨Nat.le_of_ble_eq_true rfl, Nat.le_of_ble_eq_true rfl⟩) (g0.1) rfl rfl hl.1 rfl (Nat.le_of_ble_eq_true rfl) dX8_best_22 ⟨Nat.zero_le _, Nat.zero_le _⟩ (fun r3 σ3 H locs q3 hP1 hS1 => ?_)
    replace hP := hP1
    replace hS := hS1
    clear hP1 hS1
    try dsimp only at q3
    obtain ⟨w3, f3⟩ := q3
    replace hC := hC.tr (w3.mono (dS14_1 h0))
    replace t0 : σ3 (h0 + 1) 0 = σ (h0 + 1) 0 := (w3 (h0 + 1) 0 (dS14_2 h0)).trans t0
    replace t1 : σ3 (h0 + 1) 1 = σ (h0 + 1) 1 := (w3 (h0 + 1) 1 (dS14_2 h0)).trans t1
    replace t2 : σ3 (h0 + 1) 4 = σ (h0 + 1) 4 := (w3 (h0 + 1) 4 (dS14_2 h0)).trans t2
    replace t3 : σ3 (h0 + 1) 6 = σ (h0 + 1) 6 := (w3 (h0 + 1) 6 (dS14_2 h0)).trans t3
    exact zz_iret hx hb hr hlocks hK hP hS dX8_best_25 (by exact ⟨hC, Or.inl ⟨by omega, by omega⟩⟩)
  · have c2 := zz_neT c2
    refine lv_iload_n hx hb dX8_best_11 rfl (lv_at hl 2 rfl) ?_
    refine lv_iconst (v := 0) hx hb dX8_best_12 (by decide) ?_
    refine lv_iconst (v := 1) hx hb dX8_best_13 (by decide) ?_
    refine zz_callSp (As := [.int what, .int 0, .int 1]) (rest := []) ⟨hx, hb, hml, hown, hts⟩ hK hP hS (c_X8_within l E σ what 0 1) (va_cwS 3 hts gX8_best_X8_within rfl rfl rfl (by decide +kernel) ⟨Nat.le_of_ble_eq_true rfl, Nat.le_of_ble_eq_true rfl⟩) rfl hl.1 rfl (Nat.le_of_ble_eq_true rfl) dX8_best_14 ⟨Nat.zero_le _, Nat.zero_le _⟩ (fun r4 H locs f4 hP1 hS1 => ?_)
    replace hP := hP1
    replace hS := hS1
    clear hP1 hS1
    refine lv_if_ne (tgt := 26) hx hb dX8_best_17 (by decide) (fun c5 => ?_) (fun c5 => ?_)
    · have c5 := zz_neT c5
      refine lv_aload_n hx hb dX8_best_26 rfl (lv_at hl 0 rfl) ?_
      refine lv_iload_n hx hb dX8_best_27 rfl (lv_at hl 1 rfl) ?_
      refine zz_callVv (As := [.int nn]) (rest := []) ⟨hx, hb, hml, hown, hts⟩ hK hP hS (c_X8_countRules l E σ h0 nn g0 (by first | omega | exact ht | (rw [t0]; omega) | (rw [t1]; omega) | (rw [t2]; omega) | (rw [t3]; omega) | (intro j hj; rw [(hC _ _ (by first | (dsimp only; omega) | omega))]; exact ht j hj)) K (by exact hW) (by first | omega | exact ht | (rw [t0]; omega) | (rw [t1]; omega) | (rw [t2]; omega) | (rw [t3]; omega) | (intro j hj; rw [(hC _ _ (by first | (dsimp only; omega) | omega))]; exact ht j hj))) (cwV 1 hts gX8_best_X8_countRules rfl rfl rfl (by decide +kernel) ⟨Nat.le_of_ble_eq_true rfl, Nat.le_of_ble_eq_true rfl⟩) (g0.1) rfl rfl hl.1 rfl (Nat.le_of_ble_eq_true rfl) dX8_best_28 ⟨Nat.zero_le _, Nat.zero_le _⟩ (fun σ6 H locs q6 hP1 hS1 => ?_)
      replace hP := hP1
      replace hS := hS1
      clear hP1 hS1
      try dsimp only at q6
      obtain ⟨w6, f6⟩ := q6
      replace hC := hC.tr (w6.mono (dS14_7 h0))
      replace t0 : σ6 (h0 + 1) 0 = σ (h0 + 1) 0 := (w6 (h0 + 1) 0 (dS14_8 h0)).trans t0
      replace t1 : σ6 (h0 + 1) 1 = σ (h0 + 1) 1 := (w6 (h0 + 1) 1 (dS14_8 h0)).trans t1
      replace t2 : σ6 (h0 + 1) 4 = σ (h0 + 1) 4 := (w6 (h0 + 1) 4 (dS14_8 h0)).trans t2
      replace t3 : σ6 (h0 + 1) 6 = σ (h0 + 1) 6 := (w6 (h0 + 1) 6 (dS14_8 h0)).trans t3
      have hcr0 := f6
      refine lv_iconst (v := 0) hx hb dX8_best_31 (by decide) ?_
      refine lv_istore_n (lv' := [(3, .int 0), (0, .ref h0), (1, .int nn), (2, .int what)]) hx hb dX8_best_32 rfl hl (by decide) rfl (fun ls hl => ?_)
      refine lv_iconst (v := 0) hx hb dX8_best_33 (by decide) ?_
      refine lv_istore (lv' := [(4, .int 0), (3, .int 0), (0, .ref h0), (1, .int nn), (2, .int what)]) hx hb dX8_best_34 hl (by decide) rfl (fun ls hl => ?_)
      refine lv_iconst (v := 0) hx hb dX8_best_36 (by decide) ?_
      refine lv_istore (lv' := [(5, .int 0), (4, .int 0), (3, .int 0), (0, .ref h0), (1, .int nn), (2, .int what)]) hx hb dX8_best_37 hl (by decide) rfl (fun ls hl => ?_)
      have J39 : ∀ (n : Nat) (wo : Int32) (gu : Int32) (ii : Int32) (H : Heap) (locs : List Loc) (ls : Array Slot), ((10 - ii.toInt).toNat) < n → (0 ≤ ii.toInt ∧ ii.toInt ≤ 10) → (wo = zy_st (zy_bw K (σ (h0 + 1) 0).toInt nn.toInt.toNat) ii.toInt.toNat) → (gu.toInt = zy_sm (zy_bg K (σ (h0 + 1) 0).toInt nn.toInt.toNat) ii.toInt.toNat) → zz_P E σ6 H → va_S (zz_A E) s.heap H locs → lv_has ls 6 [(5, .int ii), (4, .int gu), (3, .int wo), (0, .ref h0), (1, .int nn), (2, .int what)] → W p l e (headSpec wzX8_best ({ frames := 6, cells := 0, slots := 0, locals := 144 })).room s m args below meth c H locs 0 0 (MQ below (va_Qi (fun r σ1 => zz_ch (fun a k => a = h0 + 24 ∨ a = h0 + 27 ∨ (h0 + 58 ≤ a ∧ a ≤ h0 + 67)) σ σ1 ∧ (zy_p23 K (σ (h0 + 1) 0).toInt nn.toInt what.toInt r)) (zz_B E) (zz_A E)) args s 0 0 (zz_A E)) (F0 m 39 ls []) := by
        intro n
        induction n with
        | zero => intro wo gu ii H locs ls hm; exact absurd hm (Nat.not_lt_zero _)
        | succ n ih39 =>
          intro wo gu ii H locs ls hm f39_0 f39_1 f39_2 hP hS hl
          have hsr := zy_sm_rng (w := (zy_bg K (σ (h0 + 1) 0).toInt nn.toInt.toNat)) (c := 240) (fun i => ⟨(zy_bg_rng K (σ (h0 + 1) 0).toInt nn.toInt.toNat i).1, by have h9 := (zy_bg_rng K (σ (h0 + 1) 0).toInt nn.toInt.toNat i).2; omega⟩) ii.toInt.toNat
          refine lv_iload hx hb dX8_best_39 (lv_at hl 0 rfl) ?_
          refine lv_bipush (v := 10) hx hb dX8_best_41 (by decide) ?_
          refine lv_icmp_ge (tgt := 98) hx hb dX8_best_43 (by decide) (fun c7 => ?_) (fun c7 => ?_)
          · have c7 := zz_leT c7
            refine lv_iload_n hx hb dX8_best_98 rfl (lv_at hl 5 rfl) ?_
            refine lv_if_ne (tgt := 106) hx hb dX8_best_99 (by decide) (fun c8 => ?_) (fun c8 => ?_)
            · have c8 := zz_neT c8
              refine lv_iload hx hb dX8_best_106 (lv_at hl 1 rfl) ?_
              rw [show ii.toInt.toNat = 10 from by omega] at f39_1 f39_2
              exact zz_iret hx hb hr hlocks hK hP hS dX8_best_108 (by exact ⟨hC, Or.inr (Or.inr ⟨by omega, f39_2⟩)⟩)
            · have c8 := zz_eqT c8
              refine lv_iload_n hx hb dX8_best_102 rfl (lv_at hl 2 rfl) ?_
              refine lv_goto (tgt := 108) hx hb dX8_best_103 (by decide) ?_
              rw [show ii.toInt.toNat = 10 from by omega] at f39_1 f39_2
              exact zz_iret hx hb hr hlocks hK hP hS dX8_best_108 (by exact ⟨hC, Or.inr (Or.inl ⟨by omega, congrArg Int32.toInt f39_1⟩)⟩)
          · have c7 := zz_nleT c7
            refine lv_aload_n hx hb dX8_best_46 rfl (lv_at hl 3 rfl) ?_
            refine zz_getr hx hb hts hi8 hown hK hP (g0.1) rfl 8 (by decide) (hts (.fieldLink RX8 50 "NoonLaw" "bannedHours" "[I") (List.mem_cons_of_mem _ bm_34)) rfl rfl dX8_best_47 ?_
            refine lv_iload hx hb dX8_best_50 (lv_at hl 0 rfl) ?_
            refine zz_iald hx hb hK hP (g0.2.2.2.2.2.2.2.2.2.1) (by omega) (by omega) dX8_best_52 (fun j9 q9 r9 => ?_)
            refine lv_aload_n hx hb dX8_best_53 rfl (lv_at hl 3 rfl) ?_
            refine zz_getr hx hb hts hi8 hown hK hP (g0.1) rfl 9 (by decide) (hts (.fieldLink RX8 53 "NoonLaw" "biddenHours" "[I") (List.mem_cons_of_mem _ bm_35)) rfl rfl dX8_best_54 ?_
            refine lv_iload hx hb dX8_best_57 (lv_at hl 0 rfl) ?_
            refine zz_iald hx hb hK hP (g0.2.2.2.2.2.2.2.2.2.2) (by omega) (by omega) dX8_best_59 (fun j10 q10 r10 => ?_)
            have pa1 : (σ6 (h0 + 66) j9).toInt = zy_hu K (σ (h0 + 1) 0).toInt ((ii.toInt.toNat : Nat) : Int) 0 nn.toInt.toNat := by rw [show j9 = ii.toInt.toNat from by omega]; exact (hcr0 _ (by omega)).1
            have pb1 : (σ6 (h0 + 67) j10).toInt = zy_hu K (σ (h0 + 1) 0).toInt ((ii.toInt.toNat : Nat) : Int) 1 nn.toInt.toNat := by rw [show j10 = ii.toInt.toNat from by omega]; exact (hcr0 _ (by omega)).2
            refine lv_icmp_ge (tgt := 70) hx hb dX8_best_60 (by decide) (fun c11 => ?_) (fun c11 => ?_)
            · have c11 := zz_leT c11
              refine lv_iload hx hb dX8_best_70 (lv_at hl 1 rfl) ?_
              refine lv_aload_n hx hb dX8_best_72 rfl (lv_at hl 3 rfl) ?_
              refine zz_getr hx hb hts hi8 hown hK hP (g0.1) rfl 8 (by decide) (hts (.fieldLink RX8 50 "NoonLaw" "bannedHours" "[I") (List.mem_cons_of_mem _ bm_34)) rfl rfl dX8_best_73 ?_
              refine lv_iload hx hb dX8_best_76 (lv_at hl 0 rfl) ?_
              refine zz_iald hx hb hK hP (g0.2.2.2.2.2.2.2.2.2.1) (by omega) (by omega) dX8_best_78 (fun j12 q12 r12 => ?_)
              refine lv_aload_n hx hb dX8_best_79 rfl (lv_at hl 3 rfl) ?_
              refine zz_getr hx hb hts hi8 hown hK hP (g0.1) rfl 9 (by decide) (hts (.fieldLink RX8 53 "NoonLaw" "biddenHours" "[I") (List.mem_cons_of_mem _ bm_35)) rfl rfl dX8_best_80 ?_
              refine lv_iload hx hb dX8_best_83 (lv_at hl 0 rfl) ?_
              refine zz_iald hx hb hK hP (g0.2.2.2.2.2.2.2.2.2.2) (by omega) (by omega) dX8_best_85 (fun j13 q13 r13 => ?_)
              have pa2 : (σ6 (h0 + 66) j12).toInt = zy_hu K (σ (h0 + 1) 0).toInt ((ii.toInt.toNat : Nat) : Int) 0 nn.toInt.toNat := by rw [show j12 = ii.toInt.toNat from by omega]; exact (hcr0 _ (by omega)).1
              have pb2 : (σ6 (h0 + 67) j13).toInt = zy_hu K (σ (h0 + 1) 0).toInt ((ii.toInt.toNat : Nat) : Int) 1 nn.toInt.toNat := by rw [show j13 = ii.toInt.toNat from by omega]; exact (hcr0 _ (by omega)).2
              refine va_mmin hx hb (hml.trans hl.1.symm) hown (hts (.methodLink RX8 227 Lib.Math.min.name) (List.mem_cons_of_mem _ bm_674)) (hts (.static Lib.Math.min.name) (List.mem_cons_of_mem _ bm_226)) (hts (.initialized "java/lang/Math") (List.mem_cons_of_mem _ bm_227)) (hts (.code Lib.Math.min.name Lib.Math.min.code 2 (some .int)) (List.mem_cons_of_mem _ bm_228)) (Nat.le_of_ble_eq_true rfl) (Nat.le_of_ble_eq_true rfl) (Nat.zero_le _) (Nat.zero_le _) dX8_best_86 ?_
              refine lv_topi (fun n14 e14 => ?_)
              have f14 := zz_minT e14
              have hg9 : n14.toInt = (zy_bg K (σ (h0 + 1) 0).toInt nn.toInt.toNat) ii.toInt.toNat := zy_bg_of pa2 pb2 f14
              have hgr := zy_bg_rng K (σ (h0 + 1) 0).toInt nn.toInt.toNat ii.toInt.toNat
              refine lv_iadd hx hb dX8_best_89 ?_
              refine lv_topi (fun n15 e15 => ?_)
              have f15 : n15.toInt = (gu).toInt + (n14).toInt := zz_addT e15 (by omega) (by omega)
              refine lv_istore (lv' := [(4, .int n15), (5, .int ii), (3, .int wo), (0, .ref h0), (1, .int nn), (2, .int what)]) hx hb dX8_best_90 hl (by decide) rfl (fun ls hl => ?_)
              obtain ⟨n16, e16⟩ : ∃ y : Int32, y = ii + 1 := ⟨_, rfl⟩
              have f16 : n16.toInt = (ii).toInt + (1) := by have h9 := zz_addT e16 (by omega) (by omega); omega
              refine lv_iinc (v := n16) (lv' := [(5, .int n16), (4, .int n15), (3, .int wo), (0, .ref h0), (1, .int nn), (2, .int what)]) hx hb dX8_best_92 hl (k := 1) rfl (by rw [e16]; rfl) (by decide) rfl (fun ls hl => ?_)
              refine lv_goto (tgt := 39) hx hb dX8_best_95 (by decide) ?_
              exact ih39 wo n15 n16 _ _ _ (by omega) (by first | omega | exact ht | (rw [t0]; omega) | (rw [t1]; omega) | (rw [t2]; omega) | (rw [t3]; omega) | (intro j hj; rw [(hC _ _ (by first | (dsimp only; omega) | omega))]; exact ht j hj)) (by rw [show n16.toInt.toNat = ii.toInt.toNat + 1 from by omega]; exact zy_st_no (P := (zy_bw K (σ (h0 + 1) 0).toInt nn.toInt.toNat)) (show ¬ (zy_hu K (σ (h0 + 1) 0).toInt ((ii.toInt.toNat : Nat) : Int) 0 nn.toInt.toNat < zy_hu K (σ (h0 + 1) 0).toInt ((ii.toInt.toNat : Nat) : Int) 1 nn.toInt.toNat) by omega) f39_1 rfl) (by rw [show n16.toInt.toNat = ii.toInt.toNat + 1 from by omega]; exact zy_sm_s f39_2 hg9 f15 rfl) hP hS (lv_sub hl [0, 1, 2, 3, 4, 5] rfl)
            · have c11 := zz_nleT c11
              skip
              refine lv_iload_n hx hb dX8_best_63 rfl (lv_at hl 2 rfl) ?_
              refine lv_iconst (v := 1) hx hb dX8_best_64 (by decide) ?_
              refine lv_iload hx hb dX8_best_65 (lv_at hl 0 rfl) ?_
              refine lv_ishl hx hb dX8_best_67 ?_
              refine lv_topi (fun n17 e17 => ?_)
              refine lv_ior hx hb dX8_best_68 ?_
              refine lv_topi (fun n18 e18 => ?_)
              refine lv_istore_n (lv' := [(3, .int n18), (5, .int ii), (4, .int gu), (0, .ref h0), (1, .int nn), (2, .int what)]) hx hb dX8_best_69 rfl hl (by decide) rfl (fun ls hl => ?_)
              refine lv_iload hx hb dX8_best_70 (lv_at hl 2 rfl) ?_
              refine lv_aload_n hx hb dX8_best_72 rfl (lv_at hl 3 rfl) ?_
              refine zz_getr hx hb hts hi8 hown hK hP (g0.1) rfl 8 (by decide) (hts (.fieldLink RX8 50 "NoonLaw" "bannedHours" "[I") (List.mem_cons_of_mem _ bm_34)) rfl rfl dX8_best_73 ?_
              refine lv_iload hx hb dX8_best_76 (lv_at hl 1 rfl) ?_
              refine zz_iald hx hb hK hP (g0.2.2.2.2.2.2.2.2.2.1) (by omega) (by omega) dX8_best_78 (fun j19 q19 r19 => ?_)
              refine lv_aload_n hx hb dX8_best_79 rfl (lv_at hl 3 rfl) ?_
              refine zz_getr hx hb hts hi8 hown hK hP (g0.1) rfl 9 (by decide) (hts (.fieldLink RX8 53 "NoonLaw" "biddenHours" "[I") (List.mem_cons_of_mem _ bm_35)) rfl rfl dX8_best_80 ?_
              refine lv_iload hx hb dX8_best_83 (lv_at hl 1 rfl) ?_
              refine zz_iald hx hb hK hP (g0.2.2.2.2.2.2.2.2.2.2) (by omega) (by omega) dX8_best_85 (fun j20 q20 r20 => ?_)
              have pa2 : (σ6 (h0 + 66) j19).toInt = zy_hu K (σ (h0 + 1) 0).toInt ((ii.toInt.toNat : Nat) : Int) 0 nn.toInt.toNat := by rw [show j19 = ii.toInt.toNat from by omega]; exact (hcr0 _ (by omega)).1
              have pb2 : (σ6 (h0 + 67) j20).toInt = zy_hu K (σ (h0 + 1) 0).toInt ((ii.toInt.toNat : Nat) : Int) 1 nn.toInt.toNat := by rw [show j20 = ii.toInt.toNat from by omega]; exact (hcr0 _ (by omega)).2
              refine va_mmin hx hb (hml.trans hl.1.symm) hown (hts (.methodLink RX8 227 Lib.Math.min.name) (List.mem_cons_of_mem _ bm_674)) (hts (.static Lib.Math.min.name) (List.mem_cons_of_mem _ bm_226)) (hts (.initialized "java/lang/Math") (List.mem_cons_of_mem _ bm_227)) (hts (.code Lib.Math.min.name Lib.Math.min.code 2 (some .int)) (List.mem_cons_of_mem _ bm_228)) (Nat.le_of_ble_eq_true rfl) (Nat.le_of_ble_eq_true rfl) (Nat.zero_le _) (Nat.zero_le _) dX8_best_86 ?_
              refine lv_topi (fun n21 e21 => ?_)
              have f21 := zz_minT e21
              have hg9 : n21.toInt = (zy_bg K (σ (h0 + 1) 0).toInt nn.toInt.toNat) ii.toInt.toNat := zy_bg_of pa2 pb2 f21
              have hgr := zy_bg_rng K (σ (h0 + 1) 0).toInt nn.toInt.toNat ii.toInt.toNat
              refine lv_iadd hx hb dX8_best_89 ?_
              refine lv_topi (fun n22 e22 => ?_)
              have f22 : n22.toInt = (gu).toInt + (n21).toInt := zz_addT e22 (by omega) (by omega)
              refine lv_istore (lv' := [(4, .int n22), (3, .int n18), (5, .int ii), (0, .ref h0), (1, .int nn), (2, .int what)]) hx hb dX8_best_90 hl (by decide) rfl (fun ls hl => ?_)
              obtain ⟨n23, e23⟩ : ∃ y : Int32, y = ii + 1 := ⟨_, rfl⟩
              have f23 : n23.toInt = (ii).toInt + (1) := by have h9 := zz_addT e23 (by omega) (by omega); omega
              refine lv_iinc (v := n23) (lv' := [(5, .int n23), (4, .int n22), (3, .int n18), (0, .ref h0), (1, .int nn), (2, .int what)]) hx hb dX8_best_92 hl (k := 2) rfl (by rw [e23]; rfl) (by decide) rfl (fun ls hl => ?_)
              refine lv_goto (tgt := 39) hx hb dX8_best_95 (by decide) ?_
              exact ih39 n18 n22 n23 _ _ _ (by omega) (by first | omega | exact ht | (rw [t0]; omega) | (rw [t1]; omega) | (rw [t2]; omega) | (rw [t3]; omega) | (intro j hj; rw [(hC _ _ (by first | (dsimp only; omega) | omega))]; exact ht j hj)) (by rw [show n23.toInt.toNat = ii.toInt.toNat + 1 from by omega]; exact zy_st_in (P := (zy_bw K (σ (h0 + 1) 0).toInt nn.toInt.toNat)) (show zy_hu K (σ (h0 + 1) 0).toInt ((ii.toInt.toNat : Nat) : Int) 0 nn.toInt.toNat < zy_hu K (σ (h0 + 1) 0).toInt ((ii.toInt.toNat : Nat) : Int) 1 nn.toInt.toNat by omega) f39_1 (i := ii) (by omega) e17 e18 rfl) (by rw [show n23.toInt.toNat = ii.toInt.toNat + 1 from by omega]; exact zy_sm_s f39_2 hg9 f22 rfl) hP hS (lv_sub hl [0, 1, 2, 3, 4, 5] rfl)
      exact J39 _ 0 0 0 _ _ _ (Nat.lt_succ_self _) (by first | omega | exact ht | (rw [t0]; omega) | (rw [t1]; omega) | (rw [t2]; omega) | (rw [t3]; omega) | (intro j hj; rw [(hC _ _ (by first | (dsimp only; omega) | omega))]; exact ht j hj)) (by rw [show (0 : Int32).toInt.toNat = 0 from by decide]; rfl) (by rw [show (0 : Int32).toInt.toNat = 0 from by decide, k_0]; rfl) hP hS (lv_sub hl [0, 1, 2, 3, 4, 5] rfl)
    · have c5 := zz_eqT c5
      refine lv_aload_n hx hb dX8_best_20 rfl (lv_at hl 0 rfl) ?_
      refine lv_iconst (v := 1) hx hb dX8_best_21 (by decide) ?_
      refine zz_callVi (As := [.int 1]) (rest := []) ⟨hx, hb, hml, hown, hts⟩ hK hP hS (c_X8_refuse l E σ h0 1 g0 (by omega)) (cwV 1 hts gX8_best_X8_refuse rfl rfl rfl (by decide +kernel) ⟨Nat.le_of_ble_eq_true rfl, Nat.le_of_ble_eq_true rfl⟩) (g0.1) rfl rfl hl.1 rfl (Nat.le_of_ble_eq_true rfl) dX8_best_22 ⟨Nat.zero_le _, Nat.zero_le _⟩ (fun r24 σ24 H locs q24 hP1 hS1 => ?_)
      replace hP := hP1
      replace hS := hS1
      clear hP1 hS1
      try dsimp only at q24
      obtain ⟨w24, f24⟩ := q24
      replace hC := hC.tr (w24.mono (dS14_1 h0))
      replace t0 : σ24 (h0 + 1) 0 = σ (h0 + 1) 0 := (w24 (h0 + 1) 0 (dS14_2 h0)).trans t0
      replace t1 : σ24 (h0 + 1) 1 = σ (h0 + 1) 1 := (w24 (h0 + 1) 1 (dS14_2 h0)).trans t1
      replace t2 : σ24 (h0 + 1) 4 = σ (h0 + 1) 4 := (w24 (h0 + 1) 4 (dS14_2 h0)).trans t2
      replace t3 : σ24 (h0 + 1) 6 = σ (h0 + 1) 6 := (w24 (h0 + 1) 6 (dS14_2 h0)).trans t3
      exact zz_iret hx hb hr hlocks hK hP hS dX8_best_25 (by exact ⟨hC, Or.inl ⟨by omega, by omega⟩⟩)
theorem gX8_fewest_X8_isMatter : GoodIn wzX8_fewest (va_wsS RX8 204 yX8_isMatter wzX8_isMatter) := wz_co bm_637 (wz_co bm_345 (wz_co bm_2 (wz_in bm_346)))
theorem gX8_fewest_X8_within : GoodIn wzX8_fewest (va_wsS RX8 64 yX8_within wzX8_within) := wz_co bm_112 (wz_co bm_113 (wz_co bm_2 (wz_in bm_114)))
theorem gX8_fewest_X8_refuse : GoodIn wzX8_fewest (wsV RX8 68 RX8 yX8_refuse wzX8_refuse) := wz_co bm_118 (wz_co bm_119 (wz_co bm_120 (wz_co bm_2 (wz_in bm_121))))
theorem gX8_fewest_X8_fewestForgotten : GoodIn wzX8_fewest (wsV RX8 237 RX8 yX8_fewestForgotten wzX8_fewestForgotten) := wz_co bm_716 (wz_co bm_717 (wz_co bm_718 (wz_co bm_2 (wz_in bm_719))))
theorem gX8_fewest_J6_bitCount_0f7a4 : GoodIn wzX8_fewest (va_wsS RX8 222 yJ6_bitCount_0f7a4 wzJ6_bitCount_0f7a4) := wz_co bm_657 (wz_co bm_361 (wz_co bm_362 (wz_in bm_363)))
set_option maxHeartbeats 4000000 in
set_option maxRecDepth 100000 in
theorem c_X8_fewest (l : Launch) (E : zz_E) (σ : zz_S) (h0 : Nat) (mt : Int32) (nn : Int32) (what : Int32) (g0 : zz_L E h0) (hI : zz_IX σ h0) (K : zy_W) (hW : zy_XW σ (h0 + 1) K) : Met l yX8_fewest wzX8_fewest ({ frames := 6, cells := 0, slots := 0, locals := 147 }) (va_Pc [.ref h0, .int mt, .int nn, .int what] (zz_B E σ)) (va_Qi (fun r σ1 => zz_ch (fun a k => a = h0 + 24 ∨ a = h0 + 27 ∨ (h0 + 58 ≤ a ∧ a ≤ h0 + 67)) σ σ1 ∧ (zy_p24 K (σ (h0 + 1) 0).toInt mt.toInt nn.toInt what.toInt r)) (zz_B E) (zz_A E)) 0 0 (zz_A E) := by
  refine zz_met (cc := cX8_fewest) (maxL := 5) (ret := (some .int)) (by decide) rfl (Nat.le_of_ble_eq_true rfl) ?_
  intro p e s m args below meth c ls hx hb hr hts hown hlocks hml hK hP hS hl
  have hl : lv_has ls 5 [(0, .ref h0), (1, .int mt), (2, .int nn), (3, .int what)] := hl
  have hown : s.vm.findClass RX8 = some m.cls := hown
  have k_0 : (0 : Int32).toInt = 0 := by decide +kernel
  have k_1 : (1 : Int32).toInt = 1 := by decide +kernel
  have k_240 : (240 : Int32).toInt = 240 := by decide +kernel
  replace t0 : σ (h0 + 1) 0 = σ (h0 + 1) 0 := rfl
  replace t1 : σ (h0 + 1) 1 = σ (h0 + 1) 1 := rfl
  replace t2 : σ (h0 + 1) 4 = σ (h0 + 1) 4 := rfl
  replace t3 : σ (h0 + 1) 6 = σ (h0 + 1) 6 := rfl
  have hC : zz_ch (fun a k => a = h0 + 24 ∨ a = h0 + 27 ∨ (h0 + 58 ≤ a ∧ a ≤ h0 + 67)) σ σ := zz_ch.rf σ
  obtain ⟨⟨hh, hsl, hd, hp, htc, hwc, ht, hft, hst, hid⟩, hkI, hsh, hspk⟩ := id hI
  have hct := hW.2.1
  have hlt := hW.2.2.1
  refine lv_iload_n hx hb dX8_fewest_0 rfl (lv_at hl 1 rfl) ?_
  refine zz_callSp (As := [.int mt]) (rest := []) ⟨hx, hb, hml, hown, hts⟩ hK hP hS (c_X8_isMatter l E σ mt) (va_cwS 1 hts gX8_fewest_X8_isMatter rfl rfl rfl (by decide +kernel) ⟨Nat.le_of_ble_eq_true rfl, Nat.le_of_ble_eq_true rfl⟩) rfl hl.1 rfl (Nat.le_of_ble_eq_true rfl) dX8_fewest_1 ⟨Nat.zero_le _, Nat.zero_le _⟩ (fun r1 H locs f1 hP1 hS1 => ?_)
  replace hP := hP1
  replace hS := hS1
  clear hP1 hS1
  refine lv_if_eq (tgt := 27) hx hb dX8_fewest_4 (by decide) (fun c2 => ?_) (fun c2 => ?_)
  · have c2 := zz_eqT c2
    refine lv_aload_n hx hb dX8_fewest_27 rfl (lv_at hl 0 rfl) ?_
    refine lv_iconst (v := 1) hx hb dX8_fewest_28 (by decide) ?_
    refine zz_callVi (As := [.int 1]) (rest := []) ⟨hx, hb, hml, hown, hts⟩ hK hP hS (c_X8_refuse l E σ h0 1 g0 (by omega)) (cwV 1 hts gX8_fewest_X8_refuse rfl rfl rfl (by decide +kernel) ⟨Nat.le_of_ble_eq_true rfl, Nat.le_of_ble_eq_true rfl⟩) (g0.1) rfl rfl hl.1 rfl (Nat.le_of_ble_eq_true rfl) dX8_fewest_29 ⟨Nat.zero_le _, Nat.zero_le _⟩ (fun r3 σ3 H locs q3 hP1 hS1 => ?_)
    replace hP := hP1
    replace hS := hS1
    clear hP1 hS1
    try dsimp only at q3
    obtain ⟨w3, f3⟩ := q3
    replace hC := hC.tr (w3.mono (dS14_1 h0))
    replace t0 : σ3 (h0 + 1) 0 = σ (h0 + 1) 0 := (w3 (h0 + 1) 0 (dS14_2 h0)).trans t0
    replace t1 : σ3 (h0 + 1) 1 = σ (h0 + 1) 1 := (w3 (h0 + 1) 1 (dS14_2 h0)).trans t1
    replace t2 : σ3 (h0 + 1) 4 = σ (h0 + 1) 4 := (w3 (h0 + 1) 4 (dS14_2 h0)).trans t2
    replace t3 : σ3 (h0 + 1) 6 = σ (h0 + 1) 6 := (w3 (h0 + 1) 6 (dS14_2 h0)).trans t3
    exact zz_iret hx hb hr hlocks hK hP hS dX8_fewest_32 (by exact ⟨hC, Or.inl ⟨by omega, by omega⟩⟩)
  · have c2 := zz_neT c2
    refine lv_iload_n hx hb dX8_fewest_7 rfl (lv_at hl 2 rfl) ?_
    refine lv_iconst (v := 1) hx hb dX8_fewest_8 (by decide) ?_
    refine lv_sipush (v := 240) hx hb dX8_fewest_9 (by decide) ?_
    refine zz_callSp (As := [.int nn, .int 1, .int 240]) (rest := []) ⟨hx, hb, hml, hown, hts⟩ hK hP hS (c_X8_within l E σ nn 1 240) (va_cwS 3 hts gX8_fewest_X8_within rfl rfl rfl (by decide +kernel) ⟨Nat.le_of_ble_eq_true rfl, Nat.le_of_ble_eq_true rfl⟩) rfl hl.1 rfl (Nat.le_of_ble_eq_true rfl) dX8_fewest_12 ⟨Nat.zero_le _, Nat.zero_le _⟩ (fun r4 H locs f4 hP1 hS1 => ?_)
    replace hP := hP1
    replace hS := hS1
    clear hP1 hS1
    refine lv_if_eq (tgt := 27) hx hb dX8_fewest_15 (by decide) (fun c5 => ?_) (fun c5 => ?_)
    · have c5 := zz_eqT c5
      refine lv_aload_n hx hb dX8_fewest_27 rfl (lv_at hl 0 rfl) ?_
      refine lv_iconst (v := 1) hx hb dX8_fewest_28 (by decide) ?_
      refine zz_callVi (As := [.int 1]) (rest := []) ⟨hx, hb, hml, hown, hts⟩ hK hP hS (c_X8_refuse l E σ h0 1 g0 (by omega)) (cwV 1 hts gX8_fewest_X8_refuse rfl rfl rfl (by decide +kernel) ⟨Nat.le_of_ble_eq_true rfl, Nat.le_of_ble_eq_true rfl⟩) (g0.1) rfl rfl hl.1 rfl (Nat.le_of_ble_eq_true rfl) dX8_fewest_29 ⟨Nat.zero_le _, Nat.zero_le _⟩ (fun r6 σ6 H locs q6 hP1 hS1 => ?_)
      replace hP := hP1
      replace hS := hS1
      clear hP1 hS1
      try dsimp only at q6
      obtain ⟨w6, f6⟩ := q6
      replace hC := hC.tr (w6.mono (dS14_1 h0))
      replace t0 : σ6 (h0 + 1) 0 = σ (h0 + 1) 0 := (w6 (h0 + 1) 0 (dS14_2 h0)).trans t0
      replace t1 : σ6 (h0 + 1) 1 = σ (h0 + 1) 1 := (w6 (h0 + 1) 1 (dS14_2 h0)).trans t1
      replace t2 : σ6 (h0 + 1) 4 = σ (h0 + 1) 4 := (w6 (h0 + 1) 4 (dS14_2 h0)).trans t2
      replace t3 : σ6 (h0 + 1) 6 = σ (h0 + 1) 6 := (w6 (h0 + 1) 6 (dS14_2 h0)).trans t3
      exact zz_iret hx hb hr hlocks hK hP hS dX8_fewest_32 (by exact ⟨hC, Or.inl ⟨by omega, by omega⟩⟩)
    · have c5 := zz_neT c5
      refine lv_iload_n hx hb dX8_fewest_18 rfl (lv_at hl 3 rfl) ?_
      refine lv_iconst (v := 0) hx hb dX8_fewest_19 (by decide) ?_
      refine lv_iconst (v := 1) hx hb dX8_fewest_20 (by decide) ?_
      refine zz_callSp (As := [.int what, .int 0, .int 1]) (rest := []) ⟨hx, hb, hml, hown, hts⟩ hK hP hS (c_X8_within l E σ what 0 1) (va_cwS 3 hts gX8_fewest_X8_within rfl rfl rfl (by decide +kernel) ⟨Nat.le_of_ble_eq_true rfl, Nat.le_of_ble_eq_true rfl⟩) rfl hl.1 rfl (Nat.le_of_ble_eq_true rfl) dX8_fewest_21 ⟨Nat.zero_le _, Nat.zero_le _⟩ (fun r7 H locs f7 hP1 hS1 => ?_)
      replace hP := hP1
      replace hS := hS1
      clear hP1 hS1
      refine lv_if_ne (tgt := 33) hx hb dX8_fewest_24 (by decide) (fun c8 => ?_) (fun c8 => ?_)
      · have c8 := zz_neT c8
        refine lv_aload_n hx hb dX8_fewest_33 rfl (lv_at hl 0 rfl) ?_
        refine lv_iload_n hx hb dX8_fewest_34 rfl (lv_at hl 1 rfl) ?_
        refine lv_iload_n hx hb dX8_fewest_35 rfl (lv_at hl 2 rfl) ?_
        refine zz_callVi (As := [.int mt, .int nn]) (rest := []) ⟨hx, hb, hml, hown, hts⟩ hK hP hS (c_X8_fewestForgotten l E σ h0 mt nn g0 (by first | omega | exact ht | (rw [t0]; omega) | (rw [t1]; omega) | (rw [t2]; omega) | (rw [t3]; omega) | (intro j hj; rw [(hC _ _ (by first | (dsimp only; omega) | omega))]; exact ht j hj)) K (by exact hW) (by first | omega | exact ht | (rw [t0]; omega) | (rw [t1]; omega) | (rw [t2]; omega) | (rw [t3]; omega) | (intro j hj; rw [(hC _ _ (by first | (dsimp only; omega) | omega))]; exact ht j hj))) (cwV 2 hts gX8_fewest_X8_fewestForgotten rfl rfl rfl (by decide +kernel) ⟨Nat.le_of_ble_eq_true rfl, Nat.le_of_ble_eq_true rfl⟩) (g0.1) rfl rfl hl.1 rfl (Nat.le_of_ble_eq_true rfl) dX8_fewest_36 ⟨Nat.zero_le _, Nat.zero_le _⟩ (fun r9 σ9 H locs q9 hP1 hS1 => ?_)
        replace hP := hP1
        replace hS := hS1
        clear hP1 hS1
        try dsimp only at q9
        obtain ⟨w9, f9⟩ := q9
        replace hC := hC.tr (w9.mono (dS14_7 h0))
        replace t0 : σ9 (h0 + 1) 0 = σ (h0 + 1) 0 := (w9 (h0 + 1) 0 (dS14_8 h0)).trans t0
        replace t1 : σ9 (h0 + 1) 1 = σ (h0 + 1) 1 := (w9 (h0 + 1) 1 (dS14_8 h0)).trans t1
        replace t2 : σ9 (h0 + 1) 4 = σ (h0 + 1) 4 := (w9 (h0 + 1) 4 (dS14_8 h0)).trans t2
        replace t3 : σ9 (h0 + 1) 6 = σ (h0 + 1) 6 := (w9 (h0 + 1) 6 (dS14_8 h0)).trans t3
        refine lv_istore (lv' := [(4, .int r9), (0, .ref h0), (1, .int mt), (2, .int nn), (3, .int what)]) hx hb dX8_fewest_39 hl (by decide) rfl (fun ls hl => ?_)
        refine lv_iload_n hx hb dX8_fewest_41 rfl (lv_at hl 4 rfl) ?_
        refine lv_if_ne (tgt := 53) hx hb dX8_fewest_42 (by decide) (fun c10 => ?_) (fun c10 => ?_)
        · have c10 := zz_neT c10
          refine lv_iload hx hb dX8_fewest_53 (lv_at hl 0 rfl) ?_
          exact zz_iret hx hb hr hlocks hK hP hS dX8_fewest_55 (by exact ⟨hC, Or.inr (Or.inr (⟨by omega, congrArg Int32.toInt f9⟩))⟩)
        · have c10 := zz_eqT c10
          refine lv_iload hx hb dX8_fewest_45 (lv_at hl 0 rfl) ?_
          refine zz_callSp (As := [.int r9]) (rest := []) ⟨hx, hb, hml, hown, hts⟩ hK hP hS (c_J6_bitCount_0f7a4 l E σ9 r9) (va_cwS 1 hts gX8_fewest_J6_bitCount_0f7a4 rfl rfl rfl (by decide +kernel) ⟨Nat.le_of_ble_eq_true rfl, Nat.le_of_ble_eq_true rfl⟩) rfl hl.1 rfl (Nat.le_of_ble_eq_true rfl) dX8_fewest_47 ⟨Nat.zero_le _, Nat.zero_le _⟩ (fun r11 H locs f11 hP1 hS1 => ?_)
          replace hP := hP1
          replace hS := hS1
          clear hP1 hS1
          refine lv_goto (tgt := 55) hx hb dX8_fewest_50 (by decide) ?_
          have hz := zy_bc_pc (by rw [f9]; exact zy_fs_rng _ _ _ _) f11
          exact zz_iret hx hb hr hlocks hK hP hS dX8_fewest_55 (by exact ⟨hC, Or.inr (Or.inl ⟨by omega, by rw [hz, f9]⟩)⟩)
      · have c8 := zz_eqT c8
        refine lv_aload_n hx hb dX8_fewest_27 rfl (lv_at hl 0 rfl) ?_
        refine lv_iconst (v := 1) hx hb dX8_fewest_28 (by decide) ?_
        refine zz_callVi (As := [.int 1]) (rest := []) ⟨hx, hb, hml, hown, hts⟩ hK hP hS (c_X8_refuse l E σ h0 1 g0 (by omega)) (cwV 1 hts gX8_fewest_X8_refuse rfl rfl rfl (by decide +kernel) ⟨Nat.le_of_ble_eq_true rfl, Nat.le_of_ble_eq_true rfl⟩) (g0.1) rfl rfl hl.1 rfl (Nat.le_of_ble_eq_true rfl) dX8_fewest_29 ⟨Nat.zero_le _, Nat.zero_le _⟩ (fun r12 σ12 H locs q12 hP1 hS1 => ?_)
        replace hP := hP1
        replace hS := hS1
        clear hP1 hS1
        try dsimp only at q12
        obtain ⟨w12, f12⟩ := q12
        replace hC := hC.tr (w12.mono (dS14_1 h0))
        replace t0 : σ12 (h0 + 1) 0 = σ (h0 + 1) 0 := (w12 (h0 + 1) 0 (dS14_2 h0)).trans t0
        replace t1 : σ12 (h0 + 1) 1 = σ (h0 + 1) 1 := (w12 (h0 + 1) 1 (dS14_2 h0)).trans t1
        replace t2 : σ12 (h0 + 1) 4 = σ (h0 + 1) 4 := (w12 (h0 + 1) 4 (dS14_2 h0)).trans t2
        replace t3 : σ12 (h0 + 1) 6 = σ (h0 + 1) 6 := (w12 (h0 + 1) 6 (dS14_2 h0)).trans t3
        exact zz_iret hx hb hr hlocks hK hP hS dX8_fewest_32 (by exact ⟨hC, Or.inl ⟨by omega, by omega⟩⟩)
theorem gX8_odds_X8_isMatter : GoodIn wzX8_odds (va_wsS RX8 204 yX8_isMatter wzX8_isMatter) := wz_co bm_637 (wz_co bm_345 (wz_co bm_2 (wz_in bm_346)))
theorem gX8_odds_X8_within : GoodIn wzX8_odds (va_wsS RX8 64 yX8_within wzX8_within) := wz_co bm_112 (wz_co bm_113 (wz_co bm_2 (wz_in bm_114)))
theorem gX8_odds_X8_refuse : GoodIn wzX8_odds (wsV RX8 68 RX8 yX8_refuse wzX8_refuse) := wz_co bm_118 (wz_co bm_119 (wz_co bm_120 (wz_co bm_2 (wz_in bm_121))))
theorem gX8_odds_X4_look : GoodIn wzX8_odds (wsV RX8 139 RX4 yX4_look wzX4_look) := wz_co bm_333 (wz_co bm_334 (wz_co bm_335 (wz_co bm_30 (wz_in bm_336))))
theorem gX8_odds_X4_under : GoodIn wzX8_odds (wsV RX8 207 RX4 yX4_under wzX4_under) := wz_co bm_638 (wz_co bm_639 (wz_co bm_640 (wz_co bm_30 (wz_in bm_641))))
theorem gX8_odds_X8_commonDivisor : GoodIn wzX8_odds (va_wsS RX8 240 yX8_commonDivisor wzX8_commonDivisor) := wz_co bm_752 (wz_co bm_753 (wz_co bm_2 (wz_in bm_754)))
set_option maxHeartbeats 4000000 in
set_option maxRecDepth 100000 in
theorem c_X8_odds (l : Launch) (E : zz_E) (σ : zz_S) (h0 : Nat) (mt : Int32) (ru : Int32) (part : Int32) (g0 : zz_L E h0) (hI : zz_IX σ h0) (K : zy_W) (hW : zy_XW σ (h0 + 1) K) : Met l yX8_odds wzX8_odds ({ frames := 5, cells := 0, slots := 0, locals := 121 }) (va_Pc [.ref h0, .int mt, .int ru, .int part] (zz_B E σ)) (va_Qi (fun r σ1 => zz_ch (fun a k => a = h0 + 24 ∨ a = h0 + 27 ∨ (h0 + 58 ≤ a ∧ a ≤ h0 + 67)) σ σ1 ∧ (zy_p25 K (σ (h0 + 1) 0).toInt mt.toInt ru.toInt part.toInt r)) (zz_B E) (zz_A E)) 0 0 (zz_A E) := by
  refine zz_met (cc := cX8_odds) (maxL := 6) (ret := (some .int)) (by decide) rfl (Nat.le_of_ble_eq_true rfl) ?_
  intro p e s m args below meth c ls hx hb hr hts hown hlocks hml hK hP hS hl
  have hl : lv_has ls 6 [(0, .ref h0), (1, .int mt), (2, .int ru), (3, .int part)] := hl
  have hown : s.vm.findClass RX8 = some m.cls := hown
  have hi2 : ∀ w ∈ wsX20, w ∈ wzX8_odds := fun w h => List.mem_cons_of_mem _ (hbw2 w h)
  have hi8 : ∀ w ∈ wsX80, w ∈ wzX8_odds := fun w h => List.mem_cons_of_mem _ (hbw8 w h)
  have k_m1 : ((-1) : Int32).toInt = -1 := by decide +kernel
  have k_0 : (0 : Int32).toInt = 0 := by decide +kernel
  have k_1 : (1 : Int32).toInt = 1 := by decide +kernel
  have k_48 : (48 : Int32).toInt = 48 := by decide +kernel
  replace t0 : σ (h0 + 1) 0 = σ (h0 + 1) 0 := rfl
  replace t1 : σ (h0 + 1) 1 = σ (h0 + 1) 1 := rfl
  replace t2 : σ (h0 + 1) 4 = σ (h0 + 1) 4 := rfl
  replace t3 : σ (h0 + 1) 6 = σ (h0 + 1) 6 := rfl
  have hC : zz_ch (fun a k => a = h0 + 24 ∨ a = h0 + 27 ∨ (h0 + 58 ≤ a ∧ a ≤ h0 + 67)) σ σ := zz_ch.rf σ
  obtain ⟨⟨hh, hsl, hd, hp, htc, hwc, ht, hft, hst, hid⟩, hkI, hsh, hspk⟩ := id hI
  have hct := hW.2.1
  have hlt := hW.2.2.1
  refine lv_iload_n hx hb dX8_odds_0 rfl (lv_at hl 1 rfl) ?_
  refine zz_callSp (As := [.int mt]) (rest := []) ⟨hx, hb, hml, hown, hts⟩ hK hP hS (c_X8_isMatter l E σ mt) (va_cwS 1 hts gX8_odds_X8_isMatter rfl rfl rfl (by decide +kernel) ⟨Nat.le_of_ble_eq_true rfl, Nat.le_of_ble_eq_true rfl⟩) rfl hl.1 rfl (Nat.le_of_ble_eq_true rfl) dX8_odds_1 ⟨Nat.zero_le _, Nat.zero_le _⟩ (fun r1 H locs f1 hP1 hS1 => ?_)
  replace hP := hP1
  replace hS := hS1
  clear hP1 hS1
  refine lv_if_eq (tgt := 25) hx hb dX8_odds_4 (by decide) (fun c2 => ?_) (fun c2 => ?_)
  · have c2 := zz_eqT c2
    refine lv_aload_n hx hb dX8_odds_25 rfl (lv_at hl 0 rfl) ?_
    refine lv_iconst (v := 1) hx hb dX8_odds_26 (by decide) ?_
    refine zz_callVi (As := [.int 1]) (rest := []) ⟨hx, hb, hml, hown, hts⟩ hK hP hS (c_X8_refuse l E σ h0 1 g0 (by omega)) (cwV 1 hts gX8_odds_X8_refuse rfl rfl rfl (by decide +kernel) ⟨Nat.le_of_ble_eq_true rfl, Nat.le_of_ble_eq_true rfl⟩) (g0.1) rfl rfl hl.1 rfl (Nat.le_of_ble_eq_true rfl) dX8_odds_27 ⟨Nat.zero_le _, Nat.zero_le _⟩ (fun r3 σ3 H locs q3 hP1 hS1 => ?_)
    replace hP := hP1
    replace hS := hS1
    clear hP1 hS1
    try dsimp only at q3
    obtain ⟨w3, f3⟩ := q3
    replace hC := hC.tr (w3.mono (dS14_1 h0))
    replace t0 : σ3 (h0 + 1) 0 = σ (h0 + 1) 0 := (w3 (h0 + 1) 0 (dS14_2 h0)).trans t0
    replace t1 : σ3 (h0 + 1) 1 = σ (h0 + 1) 1 := (w3 (h0 + 1) 1 (dS14_2 h0)).trans t1
    replace t2 : σ3 (h0 + 1) 4 = σ (h0 + 1) 4 := (w3 (h0 + 1) 4 (dS14_2 h0)).trans t2
    replace t3 : σ3 (h0 + 1) 6 = σ (h0 + 1) 6 := (w3 (h0 + 1) 6 (dS14_2 h0)).trans t3
    exact zz_iret hx hb hr hlocks hK hP hS dX8_odds_30 (by exact ⟨hC, Or.inl ⟨by omega, by omega⟩⟩)
  · have c2 := zz_neT c2
    refine lv_iload_n hx hb dX8_odds_7 rfl (lv_at hl 2 rfl) ?_
    refine lv_iconst (v := (-1)) hx hb dX8_odds_8 (by decide) ?_
    refine lv_iconst (v := 1) hx hb dX8_odds_9 (by decide) ?_
    refine zz_callSp (As := [.int ru, .int (-1), .int 1]) (rest := []) ⟨hx, hb, hml, hown, hts⟩ hK hP hS (c_X8_within l E σ ru (-1) 1) (va_cwS 3 hts gX8_odds_X8_within rfl rfl rfl (by decide +kernel) ⟨Nat.le_of_ble_eq_true rfl, Nat.le_of_ble_eq_true rfl⟩) rfl hl.1 rfl (Nat.le_of_ble_eq_true rfl) dX8_odds_10 ⟨Nat.zero_le _, Nat.zero_le _⟩ (fun r4 H locs f4 hP1 hS1 => ?_)
    replace hP := hP1
    replace hS := hS1
    clear hP1 hS1
    refine lv_if_eq (tgt := 25) hx hb dX8_odds_13 (by decide) (fun c5 => ?_) (fun c5 => ?_)
    · have c5 := zz_eqT c5
      refine lv_aload_n hx hb dX8_odds_25 rfl (lv_at hl 0 rfl) ?_
      refine lv_iconst (v := 1) hx hb dX8_odds_26 (by decide) ?_
      refine zz_callVi (As := [.int 1]) (rest := []) ⟨hx, hb, hml, hown, hts⟩ hK hP hS (c_X8_refuse l E σ h0 1 g0 (by omega)) (cwV 1 hts gX8_odds_X8_refuse rfl rfl rfl (by decide +kernel) ⟨Nat.le_of_ble_eq_true rfl, Nat.le_of_ble_eq_true rfl⟩) (g0.1) rfl rfl hl.1 rfl (Nat.le_of_ble_eq_true rfl) dX8_odds_27 ⟨Nat.zero_le _, Nat.zero_le _⟩ (fun r6 σ6 H locs q6 hP1 hS1 => ?_)
      replace hP := hP1
      replace hS := hS1
      clear hP1 hS1
      try dsimp only at q6
      obtain ⟨w6, f6⟩ := q6
      replace hC := hC.tr (w6.mono (dS14_1 h0))
      replace t0 : σ6 (h0 + 1) 0 = σ (h0 + 1) 0 := (w6 (h0 + 1) 0 (dS14_2 h0)).trans t0
      replace t1 : σ6 (h0 + 1) 1 = σ (h0 + 1) 1 := (w6 (h0 + 1) 1 (dS14_2 h0)).trans t1
      replace t2 : σ6 (h0 + 1) 4 = σ (h0 + 1) 4 := (w6 (h0 + 1) 4 (dS14_2 h0)).trans t2
      replace t3 : σ6 (h0 + 1) 6 = σ (h0 + 1) 6 := (w6 (h0 + 1) 6 (dS14_2 h0)).trans t3
      exact zz_iret hx hb hr hlocks hK hP hS dX8_odds_30 (by exact ⟨hC, Or.inl ⟨by omega, by omega⟩⟩)
    · have c5 := zz_neT c5
      refine lv_iload_n hx hb dX8_odds_16 rfl (lv_at hl 3 rfl) ?_
      refine lv_iconst (v := 0) hx hb dX8_odds_17 (by decide) ?_
      refine lv_iconst (v := 1) hx hb dX8_odds_18 (by decide) ?_
      refine zz_callSp (As := [.int part, .int 0, .int 1]) (rest := []) ⟨hx, hb, hml, hown, hts⟩ hK hP hS (c_X8_within l E σ part 0 1) (va_cwS 3 hts gX8_odds_X8_within rfl rfl rfl (by decide +kernel) ⟨Nat.le_of_ble_eq_true rfl, Nat.le_of_ble_eq_true rfl⟩) rfl hl.1 rfl (Nat.le_of_ble_eq_true rfl) dX8_odds_19 ⟨Nat.zero_le _, Nat.zero_le _⟩ (fun r7 H locs f7 hP1 hS1 => ?_)
      replace hP := hP1
      replace hS := hS1
      clear hP1 hS1
      refine lv_if_ne (tgt := 31) hx hb dX8_odds_22 (by decide) (fun c8 => ?_) (fun c8 => ?_)
      · have c8 := zz_neT c8
        refine lv_iconst (v := 0) hx hb dX8_odds_31 (by decide) ?_
        refine lv_istore (lv' := [(4, .int 0), (0, .ref h0), (1, .int mt), (2, .int ru), (3, .int part)]) hx hb dX8_odds_32 hl (by decide) rfl (fun ls hl => ?_)
        refine lv_iconst (v := 0) hx hb dX8_odds_34 (by decide) ?_
        refine lv_istore (lv' := [(5, .int 0), (4, .int 0), (0, .ref h0), (1, .int mt), (2, .int ru), (3, .int part)]) hx hb dX8_odds_35 hl (by decide) rfl (fun ls hl => ?_)
        have J37 : ∀ (n : Nat) (fd : Int32) (ii : Int32) (σa : zz_S) (H : Heap) (locs : List Loc) (ls : Array Slot), ((48 - ii.toInt).toNat) < n → (zz_ch (fun a k => a = h0 + 24 ∨ a = h0 + 27 ∨ (h0 + 58 ≤ a ∧ a ≤ h0 + 67)) σ σa) → (0 ≤ ii.toInt ∧ ii.toInt ≤ 48) → (fd.toInt = zy_cn (fun i => zy_u K ((σ (h0 + 1) 0).toInt + (i : Int)) mt.toInt = ru.toInt) ii.toInt.toNat) → (σa (h0 + 1) 0 = σ (h0 + 1) 0) → (σa (h0 + 1) 1 = σ (h0 + 1) 1) → (σa (h0 + 1) 4 = σ (h0 + 1) 4) → (σa (h0 + 1) 6 = σ (h0 + 1) 6) → zz_P E σa H → va_S (zz_A E) s.heap H locs → lv_has ls 6 [(5, .int ii), (4, .int fd), (0, .ref h0), (1, .int mt), (2, .int ru), (3, .int part)] → W p l e (headSpec wzX8_odds ({ frames := 5, cells := 0, slots := 0, locals := 121 })).room s m args below meth c H locs 0 0 (MQ below (va_Qi (fun r σ1 => zz_ch (fun a k => a = h0 + 24 ∨ a = h0 + 27 ∨ (h0 + 58 ≤ a ∧ a ≤ h0 + 67)) σ σ1 ∧ (zy_p25 K (σ (h0 + 1) 0).toInt mt.toInt ru.toInt part.toInt r)) (zz_B E) (zz_A E)) args s 0 0 (zz_A E)) (F0 m 37 ls []) := by
          intro n
          induction n with
          | zero => intro fd ii σa H locs ls hm; exact absurd hm (Nat.not_lt_zero _)
          | succ n ih37 =>
            intro fd ii σa H locs ls hm hC f37_0 f37_1 t0 t1 t2 t3 hP hS hl
            have hcr := zy_cn_rng (fun i => zy_u K ((σ (h0 + 1) 0).toInt + (i : Int)) mt.toInt = ru.toInt) ii.toInt.toNat
            refine lv_iload hx hb dX8_odds_37 (lv_at hl 0 rfl) ?_
            refine lv_bipush (v := 48) hx hb dX8_odds_39 (by decide) ?_
            refine lv_icmp_ge (tgt := 86) hx hb dX8_odds_41 (by decide) (fun c9 => ?_) (fun c9 => ?_)
            · have c9 := zz_leT c9
              refine lv_iload hx hb dX8_odds_86 (lv_at hl 1 rfl) ?_
              refine lv_bipush (v := 48) hx hb dX8_odds_88 (by decide) ?_
              refine zz_callSp (As := [.int fd, .int 48]) (rest := []) ⟨hx, hb, hml, hown, hts⟩ hK hP hS (c_X8_commonDivisor l E σa fd 48 (by omega)) (va_cwS 2 hts gX8_odds_X8_commonDivisor rfl rfl rfl (by decide +kernel) ⟨Nat.le_of_ble_eq_true rfl, Nat.le_of_ble_eq_true rfl⟩) rfl hl.1 rfl (Nat.le_of_ble_eq_true rfl) dX8_odds_90 ⟨Nat.zero_le _, Nat.zero_le _⟩ (fun r10 H locs f10 hP1 hS1 => ?_)
              replace hP := hP1
              replace hS := hS1
              clear hP1 hS1
              refine lv_istore (lv' := [(5, .int r10), (4, .int fd), (0, .ref h0), (1, .int mt), (2, .int ru), (3, .int part)]) hx hb dX8_odds_93 hl (by decide) rfl (fun ls hl => ?_)
              skip
              refine lv_iload_n hx hb dX8_odds_95 rfl (lv_at hl 5 rfl) ?_
              refine lv_if_ne (tgt := 104) hx hb dX8_odds_96 (by decide) (fun c11 => ?_) (fun c11 => ?_)
              · have c11 := zz_neT c11
                refine lv_bipush (v := 48) hx hb dX8_odds_104 (by decide) ?_
                refine lv_iload hx hb dX8_odds_106 (lv_at hl 0 rfl) ?_
                skip
                refine lv_idiv hx hb dX8_odds_108 (zz_ne0 (by omega)) ?_
                refine lv_topi (fun n12 e12 => ?_)
                have hX : fd.toInt = zy_hu K (σ (h0 + 1) 0).toInt mt.toInt ru.toInt 48 := by rw [zy_hu_eq, f37_1, show ii.toInt.toNat = 48 from by omega]
                exact zz_iret hx hb hr hlocks hK hP hS dX8_odds_109 (by exact ⟨hC, Or.inr (Or.inr ⟨by omega, by rw [← hX, ← f10.1, ← k_48]; exact zz_divT _ e12 ⟨rfl, by omega⟩ (by omega)⟩)⟩)
              · have c11 := zz_eqT c11
                refine lv_iload hx hb dX8_odds_99 (lv_at hl 1 rfl) ?_
                refine lv_goto (tgt := 106) hx hb dX8_odds_101 (by decide) ?_
                refine lv_iload hx hb dX8_odds_106 (lv_at hl 0 rfl) ?_
                skip
                refine lv_idiv hx hb dX8_odds_108 (zz_ne0 (by omega)) ?_
                refine lv_topi (fun n13 e13 => ?_)
                have hX : fd.toInt = zy_hu K (σ (h0 + 1) 0).toInt mt.toInt ru.toInt 48 := by rw [zy_hu_eq, f37_1, show ii.toInt.toNat = 48 from by omega]
                exact zz_iret hx hb hr hlocks hK hP hS dX8_odds_109 (by exact ⟨hC, Or.inr (Or.inl ⟨by omega, by rw [← hX, ← f10.1]; exact zz_divT _ e13 ⟨rfl, by omega⟩ (by omega)⟩)⟩)
            · have c9 := zz_nleT c9
              refine lv_aload_n hx hb dX8_odds_44 rfl (lv_at hl 2 rfl) ?_
              refine zz_getr hx hb hts hi8 hown hK hP (g0.1) rfl 6 (by decide) (hts (.fieldLink RX8 42 "NoonLaw" "sight" "LNoonLaw$Sight;") (List.mem_cons_of_mem _ bm_31)) rfl rfl dX8_odds_45 ?_
              refine lv_aload_n hx hb dX8_odds_48 rfl (lv_at hl 2 rfl) ?_
              refine zz_getr hx hb hts hi8 hown hK hP (g0.1) rfl 0 (by decide) (hts (.fieldLink RX8 10 "NoonLaw" "realm" "LNoonLaw$Realm;") (List.mem_cons_of_mem _ bm_16)) rfl rfl dX8_odds_49 ?_
              refine lv_aload_n hx hb dX8_odds_52 rfl (lv_at hl 2 rfl) ?_
              refine zz_getr hx hb hts hi8 hown hK hP (g0.1) rfl 0 (by decide) (hts (.fieldLink RX8 10 "NoonLaw" "realm" "LNoonLaw$Realm;") (List.mem_cons_of_mem _ bm_16)) rfl rfl dX8_odds_53 ?_
              refine zz_geti hx hb hts hi2 hown hK hP (g0.2.1.1) rfl 0 (by decide) (hts (.fieldLink RX8 104 "NoonLaw$Realm" "hour" "I") (List.mem_cons_of_mem _ bm_166)) rfl rfl t0 dX8_odds_56 ?_
              refine lv_iload hx hb dX8_odds_59 (lv_at hl 0 rfl) ?_
              refine lv_iadd hx hb dX8_odds_61 ?_
              refine lv_topi (fun n14 e14 => ?_)
              have f14 : n14.toInt = (σ (h0 + 1) 0).toInt + (ii).toInt := zz_addT e14 (by omega) (by omega)
              refine zz_callVv (As := [.ref (h0 + 1), .int n14]) (rest := []) ⟨hx, hb, hml, hown, hts⟩ hK hP hS (c_X4_look l E σa (h0 + 61) (h0 + 1) n14 (g0.2.2.2.2.2.2.2.1) (g0.2.1) (by rw [t2]; exact hd) (by intro j hj; rw [(hC _ _ (by first | (dsimp only; omega) | omega))]; exact ht j hj) (by omega) (by first | omega | exact ht | (rw [t0]; omega) | (rw [t1]; omega) | (rw [t2]; omega) | (rw [t3]; omega) | (intro j hj; rw [(hC _ _ (by first | (dsimp only; omega) | omega))]; exact ht j hj)) K (by exact hW.keep (fun a k q => hC a k (by first | (dsimp only; omega) | omega)))) (cwV 2 hts gX8_odds_X4_look rfl rfl rfl (by decide +kernel) ⟨Nat.le_of_ble_eq_true rfl, Nat.le_of_ble_eq_true rfl⟩) (g0.2.2.2.2.2.2.2.1.1) rfl rfl hl.1 rfl (Nat.le_of_ble_eq_true rfl) dX8_odds_62 ⟨Nat.zero_le _, Nat.zero_le _⟩ (fun σ15 H locs q15 hP1 hS1 => ?_)
              replace hP := hP1
              replace hS := hS1
              clear hP1 hS1
              try dsimp only at q15
              obtain ⟨w15, f15⟩ := q15
              replace hC := hC.tr (w15.mono (dS14_3 h0))
              try simp only [t0, t1, t2, t3] at f15
              replace t0 : σ15 (h0 + 1) 0 = σ (h0 + 1) 0 := (w15 (h0 + 1) 0 (dS14_4 h0)).trans t0
              replace t1 : σ15 (h0 + 1) 1 = σ (h0 + 1) 1 := (w15 (h0 + 1) 1 (dS14_4 h0)).trans t1
              replace t2 : σ15 (h0 + 1) 4 = σ (h0 + 1) 4 := (w15 (h0 + 1) 4 (dS14_4 h0)).trans t2
              replace t3 : σ15 (h0 + 1) 6 = σ (h0 + 1) 6 := (w15 (h0 + 1) 6 (dS14_4 h0)).trans t3
              refine lv_aload_n hx hb dX8_odds_65 rfl (lv_at hl 2 rfl) ?_
              refine zz_getr hx hb hts hi8 hown hK hP (g0.1) rfl 6 (by decide) (hts (.fieldLink RX8 42 "NoonLaw" "sight" "LNoonLaw$Sight;") (List.mem_cons_of_mem _ bm_31)) rfl rfl dX8_odds_66 ?_
              refine lv_iload_n hx hb dX8_odds_69 rfl (lv_at hl 3 rfl) ?_
              refine zz_callVp (As := [.int mt]) (rest := []) ⟨hx, hb, hml, hown, hts⟩ hK hP hS (c_X4_under l E σ15 (h0 + 61) mt (g0.2.2.2.2.2.2.2.1) K n14.toInt (by exact f15) (by first | omega | exact ht | (rw [t0]; omega) | (rw [t1]; omega) | (rw [t2]; omega) | (rw [t3]; omega) | (intro j hj; rw [(hC _ _ (by first | (dsimp only; omega) | omega))]; exact ht j hj))) (cwV 1 hts gX8_odds_X4_under rfl rfl rfl (by decide +kernel) ⟨Nat.le_of_ble_eq_true rfl, Nat.le_of_ble_eq_true rfl⟩) (g0.2.2.2.2.2.2.2.1.1) rfl rfl hl.1 rfl (Nat.le_of_ble_eq_true rfl) dX8_odds_70 ⟨Nat.zero_le _, Nat.zero_le _⟩ (fun r16 H locs f16 hP1 hS1 => ?_)
              replace hP := hP1
              replace hS := hS1
              clear hP1 hS1
              have hu9 : zy_u K ((σ (h0 + 1) 0).toInt + ((ii.toInt.toNat : Nat) : Int)) mt.toInt = r16.toInt := by rw [f16]; exact congrArg (fun q => zy_u K q mt.toInt) (by omega)
              refine lv_iload_n hx hb dX8_odds_73 rfl (lv_at hl 4 rfl) ?_
              refine lv_icmp_ne (tgt := 80) hx hb dX8_odds_74 (by decide) (fun c17 => ?_) (fun c17 => ?_)
              · have c17 := zz_neT c17
                obtain ⟨n18, e18⟩ : ∃ y : Int32, y = ii + 1 := ⟨_, rfl⟩
                have f18 : n18.toInt = (ii).toInt + (1) := by have h9 := zz_addT e18 (by omega) (by omega); omega
                refine lv_iinc (v := n18) (lv' := [(5, .int n18), (4, .int fd), (0, .ref h0), (1, .int mt), (2, .int ru), (3, .int part)]) hx hb dX8_odds_80 hl (k := 0) rfl (by rw [e18]; rfl) (by decide) rfl (fun ls hl => ?_)
                refine lv_goto (tgt := 37) hx hb dX8_odds_83 (by decide) ?_
                exact ih37 fd n18 σ15 _ _ _ (by omega) hC (by first | omega | exact ht | (rw [t0]; omega) | (rw [t1]; omega) | (rw [t2]; omega) | (rw [t3]; omega) | (intro j hj; rw [(hC _ _ (by first | (dsimp only; omega) | omega))]; exact ht j hj)) (by rw [show n18.toInt.toNat = ii.toInt.toNat + 1 from by omega]; rw [zy_cn_0 (P := (fun i => zy_u K ((σ (h0 + 1) 0).toInt + (i : Int)) mt.toInt = ru.toInt)) (show ¬ (zy_u K ((σ (h0 + 1) 0).toInt + ((ii.toInt.toNat : Nat) : Int)) mt.toInt = ru.toInt) from by rw [hu9]; omega)]; omega) t0 t1 t2 t3 hP hS (lv_sub hl [0, 1, 2, 3, 4, 5] rfl)
              · have c17 := zz_eqT c17
                skip
                obtain ⟨n19, e19⟩ : ∃ y : Int32, y = fd + 1 := ⟨_, rfl⟩
                have f19 : n19.toInt = (fd).toInt + (1) := by have h9 := zz_addT e19 (by omega) (by omega); omega
                refine lv_iinc (v := n19) (lv' := [(4, .int n19), (5, .int ii), (0, .ref h0), (1, .int mt), (2, .int ru), (3, .int part)]) hx hb dX8_odds_77 hl (k := 1) rfl (by rw [e19]; rfl) (by decide) rfl (fun ls hl => ?_)
                obtain ⟨n20, e20⟩ : ∃ y : Int32, y = ii + 1 := ⟨_, rfl⟩
                have f20 : n20.toInt = (ii).toInt + (1) := by have h9 := zz_addT e20 (by omega) (by omega); omega
                refine lv_iinc (v := n20) (lv' := [(5, .int n20), (4, .int n19), (0, .ref h0), (1, .int mt), (2, .int ru), (3, .int part)]) hx hb dX8_odds_80 hl (k := 1) rfl (by rw [e20]; rfl) (by decide) rfl (fun ls hl => ?_)
                refine lv_goto (tgt := 37) hx hb dX8_odds_83 (by decide) ?_
                exact ih37 n19 n20 σ15 _ _ _ (by omega) hC (by first | omega | exact ht | (rw [t0]; omega) | (rw [t1]; omega) | (rw [t2]; omega) | (rw [t3]; omega) | (intro j hj; rw [(hC _ _ (by first | (dsimp only; omega) | omega))]; exact ht j hj)) (by rw [show n20.toInt.toNat = ii.toInt.toNat + 1 from by omega]; rw [zy_cn_1 (P := (fun i => zy_u K ((σ (h0 + 1) 0).toInt + (i : Int)) mt.toInt = ru.toInt)) (show zy_u K ((σ (h0 + 1) 0).toInt + ((ii.toInt.toNat : Nat) : Int)) mt.toInt = ru.toInt from by rw [hu9]; omega)]; omega) t0 t1 t2 t3 hP hS (lv_sub hl [0, 1, 2, 3, 4, 5] rfl)
        exact J37 _ 0 0 σ _ _ _ (Nat.lt_succ_self _) hC (by first | omega | exact ht | (rw [t0]; omega) | (rw [t1]; omega) | (rw [t2]; omega) | (rw [t3]; omega) | (intro j hj; rw [(hC _ _ (by first | (dsimp only; omega) | omega))]; exact ht j hj)) (by rw [show (0 : Int32).toInt.toNat = 0 from by decide, k_0]; rfl) t0 t1 t2 t3 hP hS (lv_sub hl [0, 1, 2, 3, 4, 5] rfl)
      · have c8 := zz_eqT c8
        refine lv_aload_n hx hb dX8_odds_25 rfl (lv_at hl 0 rfl) ?_
        refine lv_iconst (v := 1) hx hb dX8_odds_26 (by decide) ?_
        refine zz_callVi (As := [.int 1]) (rest := []) ⟨hx, hb, hml, hown, hts⟩ hK hP hS (c_X8_refuse l E σ h0 1 g0 (by omega)) (cwV 1 hts gX8_odds_X8_refuse rfl rfl rfl (by decide +kernel) ⟨Nat.le_of_ble_eq_true rfl, Nat.le_of_ble_eq_true rfl⟩) (g0.1) rfl rfl hl.1 rfl (Nat.le_of_ble_eq_true rfl) dX8_odds_27 ⟨Nat.zero_le _, Nat.zero_le _⟩ (fun r21 σ21 H locs q21 hP1 hS1 => ?_)
        replace hP := hP1
        replace hS := hS1
        clear hP1 hS1
        try dsimp only at q21
        obtain ⟨w21, f21⟩ := q21
        replace hC := hC.tr (w21.mono (dS14_1 h0))
        replace t0 : σ21 (h0 + 1) 0 = σ (h0 + 1) 0 := (w21 (h0 + 1) 0 (dS14_2 h0)).trans t0
        replace t1 : σ21 (h0 + 1) 1 = σ (h0 + 1) 1 := (w21 (h0 + 1) 1 (dS14_2 h0)).trans t1
        replace t2 : σ21 (h0 + 1) 4 = σ (h0 + 1) 4 := (w21 (h0 + 1) 4 (dS14_2 h0)).trans t2
        replace t3 : σ21 (h0 + 1) 6 = σ (h0 + 1) 6 := (w21 (h0 + 1) 6 (dS14_2 h0)).trans t3
        exact zz_iret hx hb hr hlocks hK hP hS dX8_odds_30 (by exact ⟨hC, Or.inl ⟨by omega, by omega⟩⟩)
theorem gX8_fits_X8_isSheet : GoodIn wzX8_fits (va_wsS RX8 243 yX8_isSheet wzX8_isSheet) := wz_co bm_765 (wz_co bm_766 (wz_co bm_2 (wz_in bm_767)))
theorem gX8_fits_X8_refuse : GoodIn wzX8_fits (wsV RX8 68 RX8 yX8_refuse wzX8_refuse) := wz_co bm_118 (wz_co bm_119 (wz_co bm_120 (wz_co bm_2 (wz_in bm_121))))
theorem gX8_fits_X4_look : GoodIn wzX8_fits (wsV RX8 139 RX4 yX4_look wzX4_look) := wz_co bm_333 (wz_co bm_334 (wz_co bm_335 (wz_co bm_30 (wz_in bm_336))))
theorem gX8_fits_X8_rightOf : GoodIn wzX8_fits (wsV RX8 250 RX8 yX8_rightOf wzX8_rightOf) := wz_co bm_768 (wz_co bm_769 (wz_co bm_770 (wz_co bm_2 (wz_in bm_771))))
set_option maxHeartbeats 4000000 in
set_option maxRecDepth 100000 in
theorem c_X8_fits (l : Launch) (E : zz_E) (σ : zz_S) (h0 : Nat) (sh : Int32) (g0 : zz_L E h0) (hI : zz_IX σ h0) (K : zy_W) (hW : zy_XW σ (h0 + 1) K) : Met l yX8_fits wzX8_fits ({ frames := 5, cells := 0, slots := 0, locals := 121 }) (va_Pc [.ref h0, .int sh] (zz_B E σ)) (va_Qi (fun r σ1 => zz_ch (fun a k => a = h0 + 24 ∨ a = h0 + 27 ∨ (h0 + 58 ≤ a ∧ a ≤ h0 + 67)) σ σ1 ∧ (zy_p26 (zz_HX 0 σ h0) (zz_HX 1 σ h0) (zz_CX σ h0) K (σ (h0 + 1) 0).toInt sh.toInt r)) (zz_B E) (zz_A E)) 0 0 (zz_A E) := by
  refine zz_met (cc := cX8_fits) (maxL := 4) (ret := (some .int)) (by decide) rfl (Nat.le_of_ble_eq_true rfl) ?_
  intro p e s m args below meth c ls hx hb hr hts hown hlocks hml hK hP hS hl
  have hl : lv_has ls 4 [(0, .ref h0), (1, .int sh)] := hl
  have hown : s.vm.findClass RX8 = some m.cls := hown
  have hi2 : ∀ w ∈ wsX20, w ∈ wzX8_fits := fun w h => List.mem_cons_of_mem _ (hbw2 w h)
  have hi3 : ∀ w ∈ wsX30, w ∈ wzX8_fits := fun w h => List.mem_cons_of_mem _ (hbw3 w h)
  have hi8 : ∀ w ∈ wsX80, w ∈ wzX8_fits := fun w h => List.mem_cons_of_mem _ (hbw8 w h)
  have k_0 : (0 : Int32).toInt = 0 := by decide +kernel
  have k_1 : (1 : Int32).toInt = 1 := by decide +kernel
  have k_2 : (2 : Int32).toInt = 2 := by decide +kernel
  have k_10 : (10 : Int32).toInt = 10 := by decide +kernel
  have k_240 : (240 : Int32).toInt = 240 := by decide +kernel
  replace t0 : σ (h0 + 1) 0 = σ (h0 + 1) 0 := rfl
  replace t1 : σ (h0 + 1) 1 = σ (h0 + 1) 1 := rfl
  replace t2 : σ (h0 + 1) 4 = σ (h0 + 1) 4 := rfl
  replace t3 : σ (h0 + 1) 6 = σ (h0 + 1) 6 := rfl
  have hC : zz_ch (fun a k => a = h0 + 24 ∨ a = h0 + 27 ∨ (h0 + 58 ≤ a ∧ a ≤ h0 + 67)) σ σ := zz_ch.rf σ
  obtain ⟨⟨hh, hsl, hd, hp, htc, hwc, ht, hft, hst, hid⟩, hkI, hsh, hspk⟩ := id hI
  have hct := hW.2.1
  have hlt := hW.2.2.1
  obtain ⟨X9, hX9⟩ : ∃ X : Int, zz_hid (zy_fi (fun i : Nat => ((zy_rt (zy_ro (zz_CX σ h0) K ((σ (h0 + 1) 0).toInt + (i : Int)) sh.toInt.toNat) (min (zz_HX 1 σ h0 sh.toInt.toNat) 10).toNat 0 : Nat) : Int) = (zz_HX 1 σ h0 sh.toInt.toNat)) 241 0 = X) := ⟨_, rfl⟩
  refine lv_iload_n hx hb dX8_fits_0 rfl (lv_at hl 1 rfl) ?_
  refine zz_callSp (As := [.int sh]) (rest := []) ⟨hx, hb, hml, hown, hts⟩ hK hP hS (c_X8_isSheet l E σ sh) (va_cwS 1 hts gX8_fits_X8_isSheet rfl rfl rfl (by decide +kernel) ⟨Nat.le_of_ble_eq_true rfl, Nat.le_of_ble_eq_true rfl⟩) rfl hl.1 rfl (Nat.le_of_ble_eq_true rfl) dX8_fits_1 ⟨Nat.zero_le _, Nat.zero_le _⟩ (fun r1 H locs f1 hP1 hS1 => ?_)
  replace hP := hP1
  replace hS := hS1
  clear hP1 hS1
  refine lv_if_ne (tgt := 13) hx hb dX8_fits_4 (by decide) (fun c2 => ?_) (fun c2 => ?_)
  · have c2 := zz_neT c2
    refine lv_aload_n hx hb dX8_fits_13 rfl (lv_at hl 0 rfl) ?_
    refine zz_getr hx hb hts hi8 hown hK hP (g0.1) rfl 3 (by decide) (hts (.fieldLink RX8 21 "NoonLaw" "sheets" "[LNoonLaw$Sheet;") (List.mem_cons_of_mem _ bm_19)) rfl rfl dX8_fits_14 ?_
    refine lv_iload_n hx hb dX8_fits_17 rfl (lv_at hl 1 rfl) ?_
    refine zz_aald hx hb hK hP (g0.2.2.2.1) rfl (by omega) (by omega) dX8_fits_18 (fun j3 q3 r3 => ?_)
    refine lv_astore_n (lv' := [(2, .ref (h0 + 68 + 2 * j3)), (0, .ref h0), (1, .int sh)]) hx hb dX8_fits_19 rfl hl (by decide) rfl (fun ls hl => ?_)
    have hs9 := hsh j3 r3
    have hxsh0 : zz_HX 0 σ h0 sh.toInt.toNat = (σ (h0 + 68 + 2 * j3) 0).toInt := by rw [show sh.toInt.toNat = j3 from by omega]; exact zz_HX.at r3
    have hxsh1 : zz_HX 1 σ h0 sh.toInt.toNat = (σ (h0 + 68 + 2 * j3) 1).toInt := by rw [show sh.toInt.toNat = j3 from by omega]; exact zz_HX.at r3
    replace t4 : σ (h0 + 68 + 2 * j3) 1 = σ (h0 + 68 + 2 * j3) 1 := rfl
    refine lv_aload_n hx hb dX8_fits_20 rfl (lv_at hl 0 rfl) ?_
    refine zz_geti hx hb hts hi3 hown hK hP ((g0.2.2.2.2.1 j3 r3).1) rfl 0 (by decide) (hts (.fieldLink RX8 246 "NoonLaw$Sheet" "bits" "I") (List.mem_cons_of_mem _ bm_763)) rfl rfl rfl dX8_fits_21 ?_
    refine lv_if_eq (tgt := 36) hx hb dX8_fits_24 (by decide) (fun c4 => ?_) (fun c4 => ?_)
    · have c4 := zz_eqT c4
      refine lv_aload_n hx hb dX8_fits_36 rfl (lv_at hl 1 rfl) ?_
      refine lv_iconst (v := 2) hx hb dX8_fits_37 (by decide) ?_
      refine zz_callVi (As := [.int 2]) (rest := []) ⟨hx, hb, hml, hown, hts⟩ hK hP hS (c_X8_refuse l E σ h0 2 g0 (by omega)) (cwV 1 hts gX8_fits_X8_refuse rfl rfl rfl (by decide +kernel) ⟨Nat.le_of_ble_eq_true rfl, Nat.le_of_ble_eq_true rfl⟩) (g0.1) rfl rfl hl.1 rfl (Nat.le_of_ble_eq_true rfl) dX8_fits_38 ⟨Nat.zero_le _, Nat.zero_le _⟩ (fun r5 σ5 H locs q5 hP1 hS1 => ?_)
      replace hP := hP1
      replace hS := hS1
      clear hP1 hS1
      try dsimp only at q5
      obtain ⟨w5, f5⟩ := q5
      replace hC := hC.tr (w5.mono (dS14_1 h0))
      replace t0 : σ5 (h0 + 1) 0 = σ (h0 + 1) 0 := (w5 (h0 + 1) 0 (dS14_2 h0)).trans t0
      replace t1 : σ5 (h0 + 1) 1 = σ (h0 + 1) 1 := (w5 (h0 + 1) 1 (dS14_2 h0)).trans t1
      replace t2 : σ5 (h0 + 1) 4 = σ (h0 + 1) 4 := (w5 (h0 + 1) 4 (dS14_2 h0)).trans t2
      replace t3 : σ5 (h0 + 1) 6 = σ (h0 + 1) 6 := (w5 (h0 + 1) 6 (dS14_2 h0)).trans t3
      replace t4 : σ5 (h0 + 68 + 2 * j3) 1 = σ (h0 + 68 + 2 * j3) 1 := (w5 _ _ (by first | (dsimp only; omega) | omega)).trans t4
      exact zz_iret hx hb hr hlocks hK hP hS dX8_fits_41 (by exact ⟨hC, Or.inr (Or.inl ⟨by omega, by omega⟩)⟩)
    · have c4 := zz_neT c4
      refine lv_aload_n hx hb dX8_fits_27 rfl (lv_at hl 0 rfl) ?_
      refine zz_geti hx hb hts hi3 hown hK hP ((g0.2.2.2.2.1 j3 r3).1) rfl 1 (by decide) (hts (.fieldLink RX8 249 "NoonLaw$Sheet" "length" "I") (List.mem_cons_of_mem _ bm_764)) rfl rfl t4 dX8_fits_28 ?_
      refine lv_bipush (v := 10) hx hb dX8_fits_31 (by decide) ?_
      refine lv_icmp_le (tgt := 42) hx hb dX8_fits_33 (by decide) (fun c6 => ?_) (fun c6 => ?_)
      · have c6 := zz_leT c6
        refine lv_iconst (v := 0) hx hb dX8_fits_42 (by decide) ?_
        refine lv_istore_n (lv' := [(3, .int 0), (2, .ref (h0 + 68 + 2 * j3)), (0, .ref h0), (1, .int sh)]) hx hb dX8_fits_43 rfl hl (by decide) rfl (fun ls hl => ?_)
        have J44 : ∀ (n : Nat) (ii : Int32) (σa : zz_S) (H : Heap) (locs : List Loc) (ls : Array Slot), ((241 - ii.toInt).toNat) < n → (zz_ch (fun a k => a = h0 + 24 ∨ a = h0 + 27 ∨ (h0 + 58 ≤ a ∧ a ≤ h0 + 67)) σ σa) → (0 ≤ ii.toInt ∧ ii.toInt ≤ 241) → (zz_hid (zy_fi (fun i : Nat => ((zy_rt (zy_ro (zz_CX σ h0) K ((σ (h0 + 1) 0).toInt + (i : Int)) sh.toInt.toNat) (min (zz_HX 1 σ h0 sh.toInt.toNat) 10).toNat 0 : Nat) : Int) = (zz_HX 1 σ h0 sh.toInt.toNat)) (241 - ii.toInt.toNat) ii.toInt.toNat = X9)) → (σa (h0 + 1) 0 = σ (h0 + 1) 0) → (σa (h0 + 1) 1 = σ (h0 + 1) 1) → (σa (h0 + 1) 4 = σ (h0 + 1) 4) → (σa (h0 + 1) 6 = σ (h0 + 1) 6) → (σa (h0 + 68 + 2 * j3) 1 = σ (h0 + 68 + 2 * j3) 1) → zz_P E σa H → va_S (zz_A E) s.heap H locs → lv_has ls 4 [(3, .int ii), (2, .ref (h0 + 68 + 2 * j3)), (0, .ref h0), (1, .int sh)] → W p l e (headSpec wzX8_fits ({ frames := 5, cells := 0, slots := 0, locals := 121 })).room s m args below meth c H locs 0 0 (MQ below (va_Qi (fun r σ1 => zz_ch (fun a k => a = h0 + 24 ∨ a = h0 + 27 ∨ (h0 + 58 ≤ a ∧ a ≤ h0 + 67)) σ σ1 ∧ (zy_p26 (zz_HX 0 σ h0) (zz_HX 1 σ h0) (zz_CX σ h0) K (σ (h0 + 1) 0).toInt sh.toInt r)) (zz_B E) (zz_A E)) args s 0 0 (zz_A E)) (F0 m 44 ls []) := by
          intro n
          induction n with
          | zero => intro ii σa H locs ls hm; exact absurd hm (Nat.not_lt_zero _)
          | succ n ih44 =>
            intro ii σa H locs ls hm hC f44_0 f44_1 t0 t1 t2 t3 t4 hP hS hl
            refine lv_iload_n hx hb dX8_fits_44 rfl (lv_at hl 0 rfl) ?_
            refine lv_sipush (v := 240) hx hb dX8_fits_45 (by decide) ?_
            refine lv_icmp_gt (tgt := 91) hx hb dX8_fits_48 (by decide) (fun c7 => ?_) (fun c7 => ?_)
            · have c7 := zz_ltT c7
              refine lv_aload_n hx hb dX8_fits_91 rfl (lv_at hl 2 rfl) ?_
              refine lv_iconst (v := 2) hx hb dX8_fits_92 (by decide) ?_
              refine zz_callVi (As := [.int 2]) (rest := []) ⟨hx, hb, hml, hown, hts⟩ hK hP hS (c_X8_refuse l E σa h0 2 g0 (by omega)) (cwV 1 hts gX8_fits_X8_refuse rfl rfl rfl (by decide +kernel) ⟨Nat.le_of_ble_eq_true rfl, Nat.le_of_ble_eq_true rfl⟩) (g0.1) rfl rfl hl.1 rfl (Nat.le_of_ble_eq_true rfl) dX8_fits_93 ⟨Nat.zero_le _, Nat.zero_le _⟩ (fun r8 σ8 H locs q8 hP1 hS1 => ?_)
              replace hP := hP1
              replace hS := hS1
              clear hP1 hS1
              try dsimp only at q8
              obtain ⟨w8, f8⟩ := q8
              replace hC := hC.tr (w8.mono (dS14_1 h0))
              replace t0 : σ8 (h0 + 1) 0 = σ (h0 + 1) 0 := (w8 (h0 + 1) 0 (dS14_2 h0)).trans t0
              replace t1 : σ8 (h0 + 1) 1 = σ (h0 + 1) 1 := (w8 (h0 + 1) 1 (dS14_2 h0)).trans t1
              replace t2 : σ8 (h0 + 1) 4 = σ (h0 + 1) 4 := (w8 (h0 + 1) 4 (dS14_2 h0)).trans t2
              replace t3 : σ8 (h0 + 1) 6 = σ (h0 + 1) 6 := (w8 (h0 + 1) 6 (dS14_2 h0)).trans t3
              replace t4 : σ8 (h0 + 68 + 2 * j3) 1 = σ (h0 + 68 + 2 * j3) 1 := (w8 _ _ (by first | (dsimp only; omega) | omega)).trans t4
              have g := zy_fi_end f44_1 (by omega)
              exact zz_iret hx hb hr hlocks hK hP hS dX8_fits_96 (by exact ⟨hC, Or.inr (Or.inr (⟨by omega, (show r8.toInt = X9 by omega).trans (show _ = X9 from hX9).symm⟩))⟩)
            · have c7 := zz_nltT c7
              refine lv_aload_n hx hb dX8_fits_51 rfl (lv_at hl 2 rfl) ?_
              refine zz_getr hx hb hts hi8 hown hK hP (g0.1) rfl 6 (by decide) (hts (.fieldLink RX8 42 "NoonLaw" "sight" "LNoonLaw$Sight;") (List.mem_cons_of_mem _ bm_31)) rfl rfl dX8_fits_52 ?_
              refine lv_aload_n hx hb dX8_fits_55 rfl (lv_at hl 2 rfl) ?_
              refine zz_getr hx hb hts hi8 hown hK hP (g0.1) rfl 0 (by decide) (hts (.fieldLink RX8 10 "NoonLaw" "realm" "LNoonLaw$Realm;") (List.mem_cons_of_mem _ bm_16)) rfl rfl dX8_fits_56 ?_
              refine lv_aload_n hx hb dX8_fits_59 rfl (lv_at hl 2 rfl) ?_
              refine zz_getr hx hb hts hi8 hown hK hP (g0.1) rfl 0 (by decide) (hts (.fieldLink RX8 10 "NoonLaw" "realm" "LNoonLaw$Realm;") (List.mem_cons_of_mem _ bm_16)) rfl rfl dX8_fits_60 ?_
              refine zz_geti hx hb hts hi2 hown hK hP (g0.2.1.1) rfl 0 (by decide) (hts (.fieldLink RX8 104 "NoonLaw$Realm" "hour" "I") (List.mem_cons_of_mem _ bm_166)) rfl rfl t0 dX8_fits_63 ?_
              refine lv_iload_n hx hb dX8_fits_66 rfl (lv_at hl 0 rfl) ?_
              refine lv_iadd hx hb dX8_fits_67 ?_
              refine lv_topi (fun n9 e9 => ?_)
              have f9 : n9.toInt = (σ (h0 + 1) 0).toInt + (ii).toInt := zz_addT e9 (by omega) (by omega)
              refine zz_callVv (As := [.ref (h0 + 1), .int n9]) (rest := []) ⟨hx, hb, hml, hown, hts⟩ hK hP hS (c_X4_look l E σa (h0 + 61) (h0 + 1) n9 (g0.2.2.2.2.2.2.2.1) (g0.2.1) (by rw [t2]; exact hd) (by intro j hj; rw [(hC _ _ (by first | (dsimp only; omega) | omega))]; exact ht j hj) (by omega) (by first | omega | exact ht | (rw [t0]; omega) | (rw [t1]; omega) | (rw [t2]; omega) | (rw [t3]; omega) | (intro j hj; rw [(hC _ _ (by first | (dsimp only; omega) | omega))]; exact ht j hj)) K (by exact hW.keep (fun a k q => hC a k (by first | (dsimp only; omega) | omega)))) (cwV 2 hts gX8_fits_X4_look rfl rfl rfl (by decide +kernel) ⟨Nat.le_of_ble_eq_true rfl, Nat.le_of_ble_eq_true rfl⟩) (g0.2.2.2.2.2.2.2.1.1) rfl rfl hl.1 rfl (Nat.le_of_ble_eq_true rfl) dX8_fits_68 ⟨Nat.zero_le _, Nat.zero_le _⟩ (fun σ10 H locs q10 hP1 hS1 => ?_)
              replace hP := hP1
              replace hS := hS1
              clear hP1 hS1
              try dsimp only at q10
              obtain ⟨w10, f10⟩ := q10
              replace hC := hC.tr (w10.mono (dS14_3 h0))
              try simp only [t0, t1, t2, t3, t4] at f10
              replace t0 : σ10 (h0 + 1) 0 = σ (h0 + 1) 0 := (w10 (h0 + 1) 0 (dS14_4 h0)).trans t0
              replace t1 : σ10 (h0 + 1) 1 = σ (h0 + 1) 1 := (w10 (h0 + 1) 1 (dS14_4 h0)).trans t1
              replace t2 : σ10 (h0 + 1) 4 = σ (h0 + 1) 4 := (w10 (h0 + 1) 4 (dS14_4 h0)).trans t2
              replace t3 : σ10 (h0 + 1) 6 = σ (h0 + 1) 6 := (w10 (h0 + 1) 6 (dS14_4 h0)).trans t3
              replace t4 : σ10 (h0 + 68 + 2 * j3) 1 = σ (h0 + 68 + 2 * j3) 1 := (w10 _ _ (by first | (dsimp only; omega) | omega)).trans t4
              refine lv_aload_n hx hb dX8_fits_71 rfl (lv_at hl 2 rfl) ?_
              refine lv_aload_n hx hb dX8_fits_72 rfl (lv_at hl 1 rfl) ?_
              refine zz_callVp (As := [.ref (h0 + 68 + 2 * j3)]) (rest := []) ⟨hx, hb, hml, hown, hts⟩ hK hP hS (c_X8_rightOf l E σ10 h0 (h0 + 68 + 2 * j3) g0 (g0.2.2.2.2.1 j3 r3) (by rw [t4]; exact hs9) (zz_CX σ h0 sh.toInt.toNat) (by intro n hn; rw [hC _ _ (by first | (dsimp only; omega) | omega), show sh.toInt.toNat = j3 from by omega, zz_CX.at r3 (by omega)]) K n9.toInt (by exact f10)) (cwV 1 hts gX8_fits_X8_rightOf rfl rfl rfl (by decide +kernel) ⟨Nat.le_of_ble_eq_true rfl, Nat.le_of_ble_eq_true rfl⟩) (g0.1) rfl rfl hl.1 rfl (Nat.le_of_ble_eq_true rfl) dX8_fits_73 ⟨Nat.zero_le _, Nat.zero_le _⟩ (fun r11 H locs f11 hP1 hS1 => ?_)
              replace hP := hP1
              replace hS := hS1
              clear hP1 hS1
              have hr9 := f11
              rw [show n9.toInt = (σ (h0 + 1) 0).toInt + ((ii.toInt.toNat : Nat) : Int) from by omega, t4, ← hxsh1] at hr9
              have hr8 : r11.toInt = ((zy_rt (zy_ro (zz_CX σ h0) K ((σ (h0 + 1) 0).toInt + ((ii.toInt.toNat : Nat) : Int)) sh.toInt.toNat) (min (zz_HX 1 σ h0 sh.toInt.toNat) 10).toNat 0 : Nat) : Int) := hr9.1
              refine lv_aload_n hx hb dX8_fits_76 rfl (lv_at hl 1 rfl) ?_
              refine zz_geti hx hb hts hi3 hown hK hP ((g0.2.2.2.2.1 j3 r3).1) rfl 1 (by decide) (hts (.fieldLink RX8 249 "NoonLaw$Sheet" "length" "I") (List.mem_cons_of_mem _ bm_764)) rfl rfl t4 dX8_fits_77 ?_
              refine lv_icmp_ne (tgt := 85) hx hb dX8_fits_80 (by decide) (fun c12 => ?_) (fun c12 => ?_)
              · have c12 := zz_neT c12
                obtain ⟨n13, e13⟩ : ∃ y : Int32, y = ii + 1 := ⟨_, rfl⟩
                have f13 : n13.toInt = (ii).toInt + (1) := by have h9 := zz_addT e13 (by omega) (by omega); omega
                refine lv_iinc (v := n13) (lv' := [(3, .int n13), (2, .ref (h0 + 68 + 2 * j3)), (0, .ref h0), (1, .int sh)]) hx hb dX8_fits_85 hl (k := 0) rfl (by rw [e13]; rfl) (by decide) rfl (fun ls hl => ?_)
                refine lv_goto (tgt := 44) hx hb dX8_fits_88 (by decide) ?_
                exact ih44 n13 σ10 _ _ _ (by omega) hC (by first | omega | exact ht | (rw [t0]; omega) | (rw [t1]; omega) | (rw [t2]; omega) | (rw [t3]; omega) | (intro j hj; rw [(hC _ _ (by first | (dsimp only; omega) | omega))]; exact ht j hj)) (by exact zy_fi_go (P := (fun i : Nat => ((zy_rt (zy_ro (zz_CX σ h0) K ((σ (h0 + 1) 0).toInt + (i : Int)) sh.toInt.toNat) (min (zz_HX 1 σ h0 sh.toInt.toNat) 10).toNat 0 : Nat) : Int) = (zz_HX 1 σ h0 sh.toInt.toNat))) (show ¬ (((zy_rt (zy_ro (zz_CX σ h0) K ((σ (h0 + 1) 0).toInt + ((ii.toInt.toNat : Nat) : Int)) sh.toInt.toNat) (min (zz_HX 1 σ h0 sh.toInt.toNat) 10).toNat 0 : Nat) : Int) = (zz_HX 1 σ h0 sh.toInt.toNat)) by rw [← hr8]; omega) f44_1 (by omega) (by omega)) t0 t1 t2 t3 t4 hP hS (lv_sub hl [0, 1, 2, 3] rfl)
              · have c12 := zz_eqT c12
                refine lv_iload_n hx hb dX8_fits_83 rfl (lv_at hl 0 rfl) ?_
                have g := zy_fi_hit (P := (fun i : Nat => ((zy_rt (zy_ro (zz_CX σ h0) K ((σ (h0 + 1) 0).toInt + (i : Int)) sh.toInt.toNat) (min (zz_HX 1 σ h0 sh.toInt.toNat) 10).toNat 0 : Nat) : Int) = (zz_HX 1 σ h0 sh.toInt.toNat))) (show ((zy_rt (zy_ro (zz_CX σ h0) K ((σ (h0 + 1) 0).toInt + ((ii.toInt.toNat : Nat) : Int)) sh.toInt.toNat) (min (zz_HX 1 σ h0 sh.toInt.toNat) 10).toNat 0 : Nat) : Int) = (zz_HX 1 σ h0 sh.toInt.toNat) by rw [← hr8]; omega) f44_1 (by omega)
                exact zz_iret hx hb hr hlocks hK hP hS dX8_fits_84 (by exact ⟨hC, Or.inr (Or.inr (⟨by omega, (show ii.toInt = X9 by omega).trans (show _ = X9 from hX9).symm⟩))⟩)
        exact J44 _ 0 σ _ _ _ (Nat.lt_succ_self _) hC (by first | omega | exact ht | (rw [t0]; omega) | (rw [t1]; omega) | (rw [t2]; omega) | (rw [t3]; omega) | (intro j hj; rw [(hC _ _ (by first | (dsimp only; omega) | omega))]; exact ht j hj)) (by exact (zy_fi_0 (by omega)).trans hX9) t0 t1 t2 t3 t4 hP hS (lv_sub hl [0, 1, 2, 3] rfl)
      · have c6 := zz_nleT c6
        refine lv_aload_n hx hb dX8_fits_36 rfl (lv_at hl 1 rfl) ?_
        refine lv_iconst (v := 2) hx hb dX8_fits_37 (by decide) ?_
        refine zz_callVi (As := [.int 2]) (rest := []) ⟨hx, hb, hml, hown, hts⟩ hK hP hS (c_X8_refuse l E σ h0 2 g0 (by omega)) (cwV 1 hts gX8_fits_X8_refuse rfl rfl rfl (by decide +kernel) ⟨Nat.le_of_ble_eq_true rfl, Nat.le_of_ble_eq_true rfl⟩) (g0.1) rfl rfl hl.1 rfl (Nat.le_of_ble_eq_true rfl) dX8_fits_38 ⟨Nat.zero_le _, Nat.zero_le _⟩ (fun r14 σ14 H locs q14 hP1 hS1 => ?_)
        replace hP := hP1
        replace hS := hS1
        clear hP1 hS1
        try dsimp only at q14
        obtain ⟨w14, f14⟩ := q14
        replace hC := hC.tr (w14.mono (dS14_1 h0))
        replace t0 : σ14 (h0 + 1) 0 = σ (h0 + 1) 0 := (w14 (h0 + 1) 0 (dS14_2 h0)).trans t0
        replace t1 : σ14 (h0 + 1) 1 = σ (h0 + 1) 1 := (w14 (h0 + 1) 1 (dS14_2 h0)).trans t1
        replace t2 : σ14 (h0 + 1) 4 = σ (h0 + 1) 4 := (w14 (h0 + 1) 4 (dS14_2 h0)).trans t2
        replace t3 : σ14 (h0 + 1) 6 = σ (h0 + 1) 6 := (w14 (h0 + 1) 6 (dS14_2 h0)).trans t3
        replace t4 : σ14 (h0 + 68 + 2 * j3) 1 = σ (h0 + 68 + 2 * j3) 1 := (w14 _ _ (by first | (dsimp only; omega) | omega)).trans t4
        exact zz_iret hx hb hr hlocks hK hP hS dX8_fits_41 (by exact ⟨hC, Or.inr (Or.inl ⟨by omega, by omega⟩)⟩)
  · have c2 := zz_eqT c2
    refine lv_aload_n hx hb dX8_fits_7 rfl (lv_at hl 0 rfl) ?_
    refine lv_iconst (v := 1) hx hb dX8_fits_8 (by decide) ?_
    refine zz_callVi (As := [.int 1]) (rest := []) ⟨hx, hb, hml, hown, hts⟩ hK hP hS (c_X8_refuse l E σ h0 1 g0 (by omega)) (cwV 1 hts gX8_fits_X8_refuse rfl rfl rfl (by decide +kernel) ⟨Nat.le_of_ble_eq_true rfl, Nat.le_of_ble_eq_true rfl⟩) (g0.1) rfl rfl hl.1 rfl (Nat.le_of_ble_eq_true rfl) dX8_fits_9 ⟨Nat.zero_le _, Nat.zero_le _⟩ (fun r15 σ15 H locs q15 hP1 hS1 => ?_)
    replace hP := hP1
    replace hS := hS1
    clear hP1 hS1
    try dsimp only at q15
    obtain ⟨w15, f15⟩ := q15
    replace hC := hC.tr (w15.mono (dS14_1 h0))
    replace t0 : σ15 (h0 + 1) 0 = σ (h0 + 1) 0 := (w15 (h0 + 1) 0 (dS14_2 h0)).trans t0
    replace t1 : σ15 (h0 + 1) 1 = σ (h0 + 1) 1 := (w15 (h0 + 1) 1 (dS14_2 h0)).trans t1
    replace t2 : σ15 (h0 + 1) 4 = σ (h0 + 1) 4 := (w15 (h0 + 1) 4 (dS14_2 h0)).trans t2
    replace t3 : σ15 (h0 + 1) 6 = σ (h0 + 1) 6 := (w15 (h0 + 1) 6 (dS14_2 h0)).trans t3
    exact zz_iret hx hb hr hlocks hK hP hS dX8_fits_12 (by exact ⟨hC, Or.inl ⟨by omega, by omega⟩⟩)
theorem gX8_judge_X8_isSheet : GoodIn wzX8_judge (va_wsS RX8 243 yX8_isSheet wzX8_isSheet) := wz_co bm_765 (wz_co bm_766 (wz_co bm_2 (wz_in bm_767)))
theorem gX8_judge_X8_refuse : GoodIn wzX8_judge (wsV RX8 68 RX8 yX8_refuse wzX8_refuse) := wz_co bm_118 (wz_co bm_119 (wz_co bm_120 (wz_co bm_2 (wz_in bm_121))))
theorem gX8_judge_X4_look : GoodIn wzX8_judge (wsV RX8 139 RX4 yX4_look wzX4_look) := wz_co bm_333 (wz_co bm_334 (wz_co bm_335 (wz_co bm_30 (wz_in bm_336))))
theorem gX8_judge_X8_rightOf : GoodIn wzX8_judge (wsV RX8 250 RX8 yX8_rightOf wzX8_rightOf) := wz_co bm_768 (wz_co bm_769 (wz_co bm_770 (wz_co bm_2 (wz_in bm_771))))
set_option maxHeartbeats 4000000 in
set_option maxRecDepth 100000 in
theorem c_X8_judge (l : Launch) (E : zz_E) (σ : zz_S) (h0 : Nat) (sh : Int32) (g0 : zz_L E h0) (hI : zz_IX σ h0) (K : zy_W) (hW : zy_XW σ (h0 + 1) K) : Met l yX8_judge wzX8_judge ({ frames := 5, cells := 0, slots := 0, locals := 121 }) (va_Pc [.ref h0, .int sh] (zz_B E σ)) (va_Qi (fun r σ1 => zz_ch (fun a k => a = h0 + 24 ∨ a = h0 + 27 ∨ (h0 + 58 ≤ a ∧ a ≤ h0 + 67)) σ σ1 ∧ (zy_p33 (zz_HX 0 σ h0) (zz_HX 1 σ h0) (zz_CX σ h0) K (σ (h0 + 1) 0).toInt sh.toInt r)) (zz_B E) (zz_A E)) 0 0 (zz_A E) := by
  refine zz_met (cc := cX8_judge) (maxL := 2) (ret := (some .int)) (by decide) rfl (Nat.le_of_ble_eq_true rfl) ?_
  intro p e s m args below meth c ls hx hb hr hts hown hlocks hml hK hP hS hl
  have hl : lv_has ls 2 [(0, .ref h0), (1, .int sh)] := hl
  have hown : s.vm.findClass RX8 = some m.cls := hown
  have hi2 : ∀ w ∈ wsX20, w ∈ wzX8_judge := fun w h => List.mem_cons_of_mem _ (hbw2 w h)
  have hi3 : ∀ w ∈ wsX30, w ∈ wzX8_judge := fun w h => List.mem_cons_of_mem _ (hbw3 w h)
  have hi8 : ∀ w ∈ wsX80, w ∈ wzX8_judge := fun w h => List.mem_cons_of_mem _ (hbw8 w h)
  have k_0 : (0 : Int32).toInt = 0 := by decide +kernel
  have k_1 : (1 : Int32).toInt = 1 := by decide +kernel
  have k_2 : (2 : Int32).toInt = 2 := by decide +kernel
  replace t0 : σ (h0 + 1) 0 = σ (h0 + 1) 0 := rfl
  replace t1 : σ (h0 + 1) 1 = σ (h0 + 1) 1 := rfl
  replace t2 : σ (h0 + 1) 4 = σ (h0 + 1) 4 := rfl
  replace t3 : σ (h0 + 1) 6 = σ (h0 + 1) 6 := rfl
  have hC : zz_ch (fun a k => a = h0 + 24 ∨ a = h0 + 27 ∨ (h0 + 58 ≤ a ∧ a ≤ h0 + 67)) σ σ := zz_ch.rf σ
  obtain ⟨⟨hh, hsl, hd, hp, htc, hwc, ht, hft, hst, hid⟩, hkI, hsh, hspk⟩ := id hI
  have hct := hW.2.1
  have hlt := hW.2.2.1
  refine lv_iload_n hx hb dX8_judge_0 rfl (lv_at hl 1 rfl) ?_
  refine zz_callSp (As := [.int sh]) (rest := []) ⟨hx, hb, hml, hown, hts⟩ hK hP hS (c_X8_isSheet l E σ sh) (va_cwS 1 hts gX8_judge_X8_isSheet rfl rfl rfl (by decide +kernel) ⟨Nat.le_of_ble_eq_true rfl, Nat.le_of_ble_eq_true rfl⟩) rfl hl.1 rfl (Nat.le_of_ble_eq_true rfl) dX8_judge_1 ⟨Nat.zero_le _, Nat.zero_le _⟩ (fun r1 H locs f1 hP1 hS1 => ?_)
  replace hP := hP1
  replace hS := hS1
  clear hP1 hS1
  refine lv_if_ne (tgt := 13) hx hb dX8_judge_4 (by decide) (fun c2 => ?_) (fun c2 => ?_)
  · have c2 := zz_neT c2
    refine lv_aload_n hx hb dX8_judge_13 rfl (lv_at hl 0 rfl) ?_
    refine zz_getr hx hb hts hi8 hown hK hP (g0.1) rfl 3 (by decide) (hts (.fieldLink RX8 21 "NoonLaw" "sheets" "[LNoonLaw$Sheet;") (List.mem_cons_of_mem _ bm_19)) rfl rfl dX8_judge_14 ?_
    refine lv_iload_n hx hb dX8_judge_17 rfl (lv_at hl 1 rfl) ?_
    refine zz_aald hx hb hK hP (g0.2.2.2.1) rfl (by omega) (by omega) dX8_judge_18 (fun j3 q3 r3 => ?_)
    have hysh0 : zz_HX 0 σ h0 sh.toInt.toNat = (σ (h0 + 68 + 2 * j3) 0).toInt := by rw [show sh.toInt.toNat = j3 from by omega]; exact zz_HX.at r3
    have hysh1 : zz_HX 1 σ h0 sh.toInt.toNat = (σ (h0 + 68 + 2 * j3) 1).toInt := by rw [show sh.toInt.toNat = j3 from by omega]; exact zz_HX.at r3
    refine zz_geti hx hb hts hi3 hown hK hP ((g0.2.2.2.2.1 j3 r3).1) rfl 0 (by decide) (hts (.fieldLink RX8 246 "NoonLaw$Sheet" "bits" "I") (List.mem_cons_of_mem _ bm_763)) rfl rfl rfl dX8_judge_19 ?_
    refine lv_if_ne (tgt := 31) hx hb dX8_judge_22 (by decide) (fun c4 => ?_) (fun c4 => ?_)
    · have c4 := zz_neT c4
      refine lv_aload_n hx hb dX8_judge_31 rfl (lv_at hl 0 rfl) ?_
      refine zz_getr hx hb hts hi8 hown hK hP (g0.1) rfl 6 (by decide) (hts (.fieldLink RX8 42 "NoonLaw" "sight" "LNoonLaw$Sight;") (List.mem_cons_of_mem _ bm_31)) rfl rfl dX8_judge_32 ?_
      refine lv_aload_n hx hb dX8_judge_35 rfl (lv_at hl 0 rfl) ?_
      refine zz_getr hx hb hts hi8 hown hK hP (g0.1) rfl 0 (by decide) (hts (.fieldLink RX8 10 "NoonLaw" "realm" "LNoonLaw$Realm;") (List.mem_cons_of_mem _ bm_16)) rfl rfl dX8_judge_36 ?_
      refine lv_aload_n hx hb dX8_judge_39 rfl (lv_at hl 0 rfl) ?_
      refine zz_getr hx hb hts hi8 hown hK hP (g0.1) rfl 0 (by decide) (hts (.fieldLink RX8 10 "NoonLaw" "realm" "LNoonLaw$Realm;") (List.mem_cons_of_mem _ bm_16)) rfl rfl dX8_judge_40 ?_
      refine zz_geti hx hb hts hi2 hown hK hP (g0.2.1.1) rfl 0 (by decide) (hts (.fieldLink RX8 104 "NoonLaw$Realm" "hour" "I") (List.mem_cons_of_mem _ bm_166)) rfl rfl t0 dX8_judge_43 ?_
      refine zz_callVv (As := [.ref (h0 + 1), .int (σ (h0 + 1) 0)]) (rest := []) ⟨hx, hb, hml, hown, hts⟩ hK hP hS (c_X4_look l E σ (h0 + 61) (h0 + 1) (σ (h0 + 1) 0) (g0.2.2.2.2.2.2.2.1) (g0.2.1) (by exact hd) (by exact ht) (by omega) (by first | omega | exact ht | (rw [t0]; omega) | (rw [t1]; omega) | (rw [t2]; omega) | (rw [t3]; omega) | (intro j hj; rw [(hC _ _ (by first | (dsimp only; omega) | omega))]; exact ht j hj)) K (by exact hW)) (cwV 2 hts gX8_judge_X4_look rfl rfl rfl (by decide +kernel) ⟨Nat.le_of_ble_eq_true rfl, Nat.le_of_ble_eq_true rfl⟩) (g0.2.2.2.2.2.2.2.1.1) rfl rfl hl.1 rfl (Nat.le_of_ble_eq_true rfl) dX8_judge_46 ⟨Nat.zero_le _, Nat.zero_le _⟩ (fun σ5 H locs q5 hP1 hS1 => ?_)
      replace hP := hP1
      replace hS := hS1
      clear hP1 hS1
      try dsimp only at q5
      obtain ⟨w5, f5⟩ := q5
      replace hC := hC.tr (w5.mono (dS14_3 h0))
      replace t0 : σ5 (h0 + 1) 0 = σ (h0 + 1) 0 := (w5 (h0 + 1) 0 (dS14_4 h0)).trans t0
      replace t1 : σ5 (h0 + 1) 1 = σ (h0 + 1) 1 := (w5 (h0 + 1) 1 (dS14_4 h0)).trans t1
      replace t2 : σ5 (h0 + 1) 4 = σ (h0 + 1) 4 := (w5 (h0 + 1) 4 (dS14_4 h0)).trans t2
      replace t3 : σ5 (h0 + 1) 6 = σ (h0 + 1) 6 := (w5 (h0 + 1) 6 (dS14_4 h0)).trans t3
      refine lv_aload_n hx hb dX8_judge_49 rfl (lv_at hl 0 rfl) ?_
      refine lv_aload_n hx hb dX8_judge_50 rfl (lv_at hl 0 rfl) ?_
      refine zz_getr hx hb hts hi8 hown hK hP (g0.1) rfl 3 (by decide) (hts (.fieldLink RX8 21 "NoonLaw" "sheets" "[LNoonLaw$Sheet;") (List.mem_cons_of_mem _ bm_19)) rfl rfl dX8_judge_51 ?_
      refine lv_iload_n hx hb dX8_judge_54 rfl (lv_at hl 1 rfl) ?_
      refine zz_aald hx hb hK hP (g0.2.2.2.1) rfl (by omega) (by omega) dX8_judge_55 (fun j6 q6 r6 => ?_)
      have hs9 := hsh j6 r6
      have hxsh0 : zz_HX 0 σ h0 sh.toInt.toNat = (σ (h0 + 68 + 2 * j6) 0).toInt := by rw [show sh.toInt.toNat = j6 from by omega]; exact zz_HX.at r6
      have hxsh1 : zz_HX 1 σ h0 sh.toInt.toNat = (σ (h0 + 68 + 2 * j6) 1).toInt := by rw [show sh.toInt.toNat = j6 from by omega]; exact zz_HX.at r6
      refine zz_callVp (As := [.ref (h0 + 68 + 2 * j6)]) (rest := []) ⟨hx, hb, hml, hown, hts⟩ hK hP hS (c_X8_rightOf l E σ5 h0 (h0 + 68 + 2 * j6) g0 (g0.2.2.2.2.1 j6 r6) (by rw [(hC _ _ (by first | (dsimp only; omega) | omega))]; exact hs9) (zz_CX σ h0 sh.toInt.toNat) (by intro n hn; rw [hC _ _ (by first | (dsimp only; omega) | omega), show sh.toInt.toNat = j6 from by omega, zz_CX.at r6 (by omega)]) K (σ (h0 + 1) 0).toInt (by exact f5)) (cwV 1 hts gX8_judge_X8_rightOf rfl rfl rfl (by decide +kernel) ⟨Nat.le_of_ble_eq_true rfl, Nat.le_of_ble_eq_true rfl⟩) (g0.1) rfl rfl hl.1 rfl (Nat.le_of_ble_eq_true rfl) dX8_judge_56 ⟨Nat.zero_le _, Nat.zero_le _⟩ (fun r7 H locs f7 hP1 hS1 => ?_)
      replace hP := hP1
      replace hS := hS1
      clear hP1 hS1
      have hr9 := f7
      rw [hC _ _ (by first | (dsimp only; omega) | omega), ← hxsh1] at hr9
      exact zz_iret hx hb hr hlocks hK hP hS dX8_judge_59 (by exact ⟨hC, Or.inr (Or.inr (⟨by omega, hr9.1⟩))⟩)
    · have c4 := zz_eqT c4
      refine lv_aload_n hx hb dX8_judge_25 rfl (lv_at hl 0 rfl) ?_
      refine lv_iconst (v := 2) hx hb dX8_judge_26 (by decide) ?_
      refine zz_callVi (As := [.int 2]) (rest := []) ⟨hx, hb, hml, hown, hts⟩ hK hP hS (c_X8_refuse l E σ h0 2 g0 (by omega)) (cwV 1 hts gX8_judge_X8_refuse rfl rfl rfl (by decide +kernel) ⟨Nat.le_of_ble_eq_true rfl, Nat.le_of_ble_eq_true rfl⟩) (g0.1) rfl rfl hl.1 rfl (Nat.le_of_ble_eq_true rfl) dX8_judge_27 ⟨Nat.zero_le _, Nat.zero_le _⟩ (fun r8 σ8 H locs q8 hP1 hS1 => ?_)
      replace hP := hP1
      replace hS := hS1
      clear hP1 hS1
      try dsimp only at q8
      obtain ⟨w8, f8⟩ := q8
      replace hC := hC.tr (w8.mono (dS14_1 h0))
      replace t0 : σ8 (h0 + 1) 0 = σ (h0 + 1) 0 := (w8 (h0 + 1) 0 (dS14_2 h0)).trans t0
      replace t1 : σ8 (h0 + 1) 1 = σ (h0 + 1) 1 := (w8 (h0 + 1) 1 (dS14_2 h0)).trans t1
      replace t2 : σ8 (h0 + 1) 4 = σ (h0 + 1) 4 := (w8 (h0 + 1) 4 (dS14_2 h0)).trans t2
      replace t3 : σ8 (h0 + 1) 6 = σ (h0 + 1) 6 := (w8 (h0 + 1) 6 (dS14_2 h0)).trans t3
      exact zz_iret hx hb hr hlocks hK hP hS dX8_judge_30 (by exact ⟨hC, Or.inr (Or.inl ⟨by omega, by omega⟩)⟩)
  · have c2 := zz_eqT c2
    refine lv_aload_n hx hb dX8_judge_7 rfl (lv_at hl 0 rfl) ?_
    refine lv_iconst (v := 1) hx hb dX8_judge_8 (by decide) ?_
    refine zz_callVi (As := [.int 1]) (rest := []) ⟨hx, hb, hml, hown, hts⟩ hK hP hS (c_X8_refuse l E σ h0 1 g0 (by omega)) (cwV 1 hts gX8_judge_X8_refuse rfl rfl rfl (by decide +kernel) ⟨Nat.le_of_ble_eq_true rfl, Nat.le_of_ble_eq_true rfl⟩) (g0.1) rfl rfl hl.1 rfl (Nat.le_of_ble_eq_true rfl) dX8_judge_9 ⟨Nat.zero_le _, Nat.zero_le _⟩ (fun r9 σ9 H locs q9 hP1 hS1 => ?_)
    replace hP := hP1
    replace hS := hS1
    clear hP1 hS1
    try dsimp only at q9
    obtain ⟨w9, f9⟩ := q9
    replace hC := hC.tr (w9.mono (dS14_1 h0))
    replace t0 : σ9 (h0 + 1) 0 = σ (h0 + 1) 0 := (w9 (h0 + 1) 0 (dS14_2 h0)).trans t0
    replace t1 : σ9 (h0 + 1) 1 = σ (h0 + 1) 1 := (w9 (h0 + 1) 1 (dS14_2 h0)).trans t1
    replace t2 : σ9 (h0 + 1) 4 = σ (h0 + 1) 4 := (w9 (h0 + 1) 4 (dS14_2 h0)).trans t2
    replace t3 : σ9 (h0 + 1) 6 = σ (h0 + 1) 6 := (w9 (h0 + 1) 6 (dS14_2 h0)).trans t3
    exact zz_iret hx hb hr hlocks hK hP hS dX8_judge_12 (by exact ⟨hC, Or.inl ⟨by omega, by omega⟩⟩)
theorem gX8_told_X8_within : GoodIn wzX8_told (va_wsS RX8 64 yX8_within wzX8_within) := wz_co bm_112 (wz_co bm_113 (wz_co bm_2 (wz_in bm_114)))
theorem gX8_told_X8_refuse : GoodIn wzX8_told (wsV RX8 68 RX8 yX8_refuse wzX8_refuse) := wz_co bm_118 (wz_co bm_119 (wz_co bm_120 (wz_co bm_2 (wz_in bm_121))))
set_option maxHeartbeats 4000000 in
set_option maxRecDepth 100000 in
theorem c_X8_told (l : Launch) (E : zz_E) (σ : zz_S) (h0 : Nat) (kk : Int32) (g0 : zz_L E h0) (hI : zz_IX σ h0) : Met l yX8_told wzX8_told ({ frames := 1, cells := 0, slots := 0, locals := 22 }) (va_Pc [.ref h0, .int kk] (zz_B E σ)) (va_Qi (fun r σ1 => zz_ch (fun a k => a = h0 + 24 ∨ a = h0 + 27 ∨ (h0 + 58 ≤ a ∧ a ≤ h0 + 67)) σ σ1 ∧ (True)) (zz_B E) (zz_A E)) 0 0 (zz_A E) := by
  refine zz_met (cc := cX8_told) (maxL := 2) (ret := (some .int)) (by decide) rfl (Nat.le_of_ble_eq_true rfl) ?_
  intro p e s m args below meth c ls hx hb hr hts hown hlocks hml hK hP hS hl
  have hl : lv_has ls 2 [(0, .ref h0), (1, .int kk)] := hl
  have hown : s.vm.findClass RX8 = some m.cls := hown
  have hi8 : ∀ w ∈ wsX80, w ∈ wzX8_told := fun w h => List.mem_cons_of_mem _ (hbw8 w h)
  have k_0 : (0 : Int32).toInt = 0 := by decide +kernel
  have k_1 : (1 : Int32).toInt = 1 := by decide +kernel
  have k_6 : (6 : Int32).toInt = 6 := by decide +kernel
  replace t0 : σ (h0 + 1) 0 = σ (h0 + 1) 0 := rfl
  replace t1 : σ (h0 + 1) 1 = σ (h0 + 1) 1 := rfl
  replace t2 : σ (h0 + 1) 4 = σ (h0 + 1) 4 := rfl
  replace t3 : σ (h0 + 1) 6 = σ (h0 + 1) 6 := rfl
  have hC : zz_ch (fun a k => a = h0 + 24 ∨ a = h0 + 27 ∨ (h0 + 58 ≤ a ∧ a ≤ h0 + 67)) σ σ := zz_ch.rf σ
  obtain ⟨⟨hh, hsl, hd, hp, htc, hwc, ht, hft, hst, hid⟩, hkI, hsh, hspk⟩ := id hI
  refine lv_iload_n hx hb dX8_told_0 rfl (lv_at hl 1 rfl) ?_
  refine lv_iconst (v := 1) hx hb dX8_told_1 (by decide) ?_
  refine lv_bipush (v := 6) hx hb dX8_told_2 (by decide) ?_
  refine zz_callSp (As := [.int kk, .int 1, .int 6]) (rest := []) ⟨hx, hb, hml, hown, hts⟩ hK hP hS (c_X8_within l E σ kk 1 6) (va_cwS 3 hts gX8_told_X8_within rfl rfl rfl (by decide +kernel) ⟨Nat.le_of_ble_eq_true rfl, Nat.le_of_ble_eq_true rfl⟩) rfl hl.1 rfl (Nat.le_of_ble_eq_true rfl) dX8_told_4 ⟨Nat.zero_le _, Nat.zero_le _⟩ (fun r1 H locs f1 hP1 hS1 => ?_)
  replace hP := hP1
  replace hS := hS1
  clear hP1 hS1
  refine lv_if_ne (tgt := 16) hx hb dX8_told_7 (by decide) (fun c2 => ?_) (fun c2 => ?_)
  · have c2 := zz_neT c2
    refine lv_aload_n hx hb dX8_told_16 rfl (lv_at hl 0 rfl) ?_
    refine zz_getr hx hb hts hi8 hown hK hP (g0.1) rfl 7 (by decide) (hts (.fieldLink RX8 46 "NoonLaw" "refused" "[I") (List.mem_cons_of_mem _ bm_33)) rfl rfl dX8_told_17 ?_
    refine lv_iload_n hx hb dX8_told_20 rfl (lv_at hl 1 rfl) ?_
    refine zz_iald hx hb hK hP (g0.2.2.2.2.2.2.2.2.1) (by omega) (by omega) dX8_told_21 (fun j3 q3 r3 => ?_)
    exact zz_iret hx hb hr hlocks hK hP hS dX8_told_22 (by exact ⟨hC, trivial⟩)
  · have c2 := zz_eqT c2
    refine lv_aload_n hx hb dX8_told_10 rfl (lv_at hl 0 rfl) ?_
    refine lv_iconst (v := 1) hx hb dX8_told_11 (by decide) ?_
    refine zz_callVi (As := [.int 1]) (rest := []) ⟨hx, hb, hml, hown, hts⟩ hK hP hS (c_X8_refuse l E σ h0 1 g0 (by omega)) (cwV 1 hts gX8_told_X8_refuse rfl rfl rfl (by decide +kernel) ⟨Nat.le_of_ble_eq_true rfl, Nat.le_of_ble_eq_true rfl⟩) (g0.1) rfl rfl hl.1 rfl (Nat.le_of_ble_eq_true rfl) dX8_told_12 ⟨Nat.zero_le _, Nat.zero_le _⟩ (fun r4 σ4 H locs q4 hP1 hS1 => ?_)
    replace hP := hP1
    replace hS := hS1
    clear hP1 hS1
    try dsimp only at q4
    obtain ⟨w4, f4⟩ := q4
    replace hC := hC.tr (w4.mono (dS14_1 h0))
    replace t0 : σ4 (h0 + 1) 0 = σ (h0 + 1) 0 := (w4 (h0 + 1) 0 (dS14_2 h0)).trans t0
    replace t1 : σ4 (h0 + 1) 1 = σ (h0 + 1) 1 := (w4 (h0 + 1) 1 (dS14_2 h0)).trans t1
    replace t2 : σ4 (h0 + 1) 4 = σ (h0 + 1) 4 := (w4 (h0 + 1) 4 (dS14_2 h0)).trans t2
    replace t3 : σ4 (h0 + 1) 6 = σ (h0 + 1) 6 := (w4 (h0 + 1) 6 (dS14_2 h0)).trans t3
    exact zz_iret hx hb hr hlocks hK hP hS dX8_told_15 (by exact ⟨hC, trivial⟩)
theorem gX8_body_X8_within : GoodIn wzX8_body (va_wsS RX8 64 yX8_within wzX8_within) := wz_co bm_112 (wz_co bm_113 (wz_co bm_2 (wz_in bm_114)))
theorem gX8_body_X8_refuse : GoodIn wzX8_body (wsV RX8 68 RX8 yX8_refuse wzX8_refuse) := wz_co bm_118 (wz_co bm_119 (wz_co bm_120 (wz_co bm_2 (wz_in bm_121))))
set_option maxHeartbeats 4000000 in
set_option maxRecDepth 100000 in
theorem c_X8_body (l : Launch) (E : zz_E) (σ : zz_S) (h0 : Nat) (ix : Int32) (g0 : zz_L E h0) (hI : zz_IX σ h0) : Met l yX8_body wzX8_body ({ frames := 1, cells := 0, slots := 0, locals := 22 }) (va_Pc [.ref h0, .int ix] (zz_B E σ)) (va_Qi (fun r σ1 => zz_ch (fun a k => a = h0 + 24 ∨ a = h0 + 27 ∨ (h0 + 58 ≤ a ∧ a ≤ h0 + 67)) σ σ1 ∧ (((ix.toInt < 0 ∨ (σ (h0 + 56) 1).toInt ≤ ix.toInt) ∧ r.toInt = -1000000002) ∨ (0 ≤ ix.toInt ∧ ix.toInt < (σ (h0 + 56) 1).toInt ∧ r.toInt = zz_TV σ (h0 + 56 + 1) ix.toInt.toNat))) (zz_B E) (zz_A E)) 0 0 (zz_A E) := by
  refine zz_met (cc := cX8_body) (maxL := 2) (ret := (some .int)) (by decide) rfl (Nat.le_of_ble_eq_true rfl) ?_
  intro p e s m args below meth c ls hx hb hr hts hown hlocks hml hK hP hS hl
  have hl : lv_has ls 2 [(0, .ref h0), (1, .int ix)] := hl
  have hown : s.vm.findClass RX8 = some m.cls := hown
  have hi5 : ∀ w ∈ wsX50, w ∈ wzX8_body := fun w h => List.mem_cons_of_mem _ (hbw5 w h)
  have hi8 : ∀ w ∈ wsX80, w ∈ wzX8_body := fun w h => List.mem_cons_of_mem _ (hbw8 w h)
  have k_0 : (0 : Int32).toInt = 0 := by decide +kernel
  have k_1 : (1 : Int32).toInt = 1 := by decide +kernel
  have k_2 : (2 : Int32).toInt = 2 := by decide +kernel
  replace t0 : σ (h0 + 1) 0 = σ (h0 + 1) 0 := rfl
  replace t1 : σ (h0 + 1) 1 = σ (h0 + 1) 1 := rfl
  replace t2 : σ (h0 + 1) 4 = σ (h0 + 1) 4 := rfl
  replace t3 : σ (h0 + 1) 6 = σ (h0 + 1) 6 := rfl
  have hC : zz_ch (fun a k => a = h0 + 24 ∨ a = h0 + 27 ∨ (h0 + 58 ≤ a ∧ a ≤ h0 + 67)) σ σ := zz_ch.rf σ
  obtain ⟨⟨hh, hsl, hd, hp, htc, hwc, ht, hft, hst, hid⟩, hkI, hsh, hspk⟩ := id hI
  refine lv_iload_n hx hb dX8_body_0 rfl (lv_at hl 1 rfl) ?_
  refine lv_iconst (v := 0) hx hb dX8_body_1 (by decide) ?_
  refine lv_aload_n hx hb dX8_body_2 rfl (lv_at hl 0 rfl) ?_
  refine zz_getr hx hb hts hi8 hown hK hP (g0.1) rfl 4 (by decide) (hts (.fieldLink RX8 28 "NoonLaw" "speaker" "LNoonLaw$Speaker;") (List.mem_cons_of_mem _ bm_23)) rfl rfl dX8_body_3 ?_
  refine zz_geti hx hb hts hi5 hown hK hP (g0.2.2.2.2.2.1.1) rfl 1 (by decide) (hts (.fieldLink RX8 261 "NoonLaw$Speaker" "length" "I") (List.mem_cons_of_mem _ bm_878)) rfl rfl rfl dX8_body_6 ?_
  refine lv_iconst (v := 1) hx hb dX8_body_9 (by decide) ?_
  refine lv_isub hx hb dX8_body_10 ?_
  refine lv_topi (fun n1 e1 => ?_)
  have f1 : n1.toInt = (σ (h0 + 56) 1).toInt - (1 : Int32).toInt := zz_subT e1 (by omega) (by omega)
  refine zz_callSp (As := [.int ix, .int 0, .int n1]) (rest := []) ⟨hx, hb, hml, hown, hts⟩ hK hP hS (c_X8_within l E σ ix 0 n1) (va_cwS 3 hts gX8_body_X8_within rfl rfl rfl (by decide +kernel) ⟨Nat.le_of_ble_eq_true rfl, Nat.le_of_ble_eq_true rfl⟩) rfl hl.1 rfl (Nat.le_of_ble_eq_true rfl) dX8_body_11 ⟨Nat.zero_le _, Nat.zero_le _⟩ (fun r2 H locs f2 hP1 hS1 => ?_)
  replace hP := hP1
  replace hS := hS1
  clear hP1 hS1
  refine lv_if_ne (tgt := 23) hx hb dX8_body_14 (by decide) (fun c3 => ?_) (fun c3 => ?_)
  · have c3 := zz_neT c3
    refine lv_aload_n hx hb dX8_body_23 rfl (lv_at hl 0 rfl) ?_
    refine zz_getr hx hb hts hi8 hown hK hP (g0.1) rfl 4 (by decide) (hts (.fieldLink RX8 28 "NoonLaw" "speaker" "LNoonLaw$Speaker;") (List.mem_cons_of_mem _ bm_23)) rfl rfl dX8_body_24 ?_
    refine zz_getr hx hb hts hi5 hown hK hP (g0.2.2.2.2.2.1.1) rfl 0 (by decide) (hts (.fieldLink RX8 262 "NoonLaw$Speaker" "trace" "[I") (List.mem_cons_of_mem _ bm_879)) rfl rfl dX8_body_27 ?_
    refine lv_iload_n hx hb dX8_body_30 rfl (lv_at hl 1 rfl) ?_
    refine zz_iald hx hb hK hP (g0.2.2.2.2.2.1.2) (by omega) (by omega) dX8_body_31 (fun j4 q4 r4 => ?_)
    exact zz_iret hx hb hr hlocks hK hP hS dX8_body_32 (by exact ⟨hC, Or.inr ⟨by omega, by omega, by rw [show ix.toInt.toNat = j4 from by omega, zz_TV.at (by omega)]⟩⟩)
  · have c3 := zz_eqT c3
    refine lv_aload_n hx hb dX8_body_17 rfl (lv_at hl 0 rfl) ?_
    refine lv_iconst (v := 2) hx hb dX8_body_18 (by decide) ?_
    refine zz_callVi (As := [.int 2]) (rest := []) ⟨hx, hb, hml, hown, hts⟩ hK hP hS (c_X8_refuse l E σ h0 2 g0 (by omega)) (cwV 1 hts gX8_body_X8_refuse rfl rfl rfl (by decide +kernel) ⟨Nat.le_of_ble_eq_true rfl, Nat.le_of_ble_eq_true rfl⟩) (g0.1) rfl rfl hl.1 rfl (Nat.le_of_ble_eq_true rfl) dX8_body_19 ⟨Nat.zero_le _, Nat.zero_le _⟩ (fun r5 σ5 H locs q5 hP1 hS1 => ?_)
    replace hP := hP1
    replace hS := hS1
    clear hP1 hS1
    try dsimp only at q5
    obtain ⟨w5, f5⟩ := q5
    replace hC := hC.tr (w5.mono (dS14_1 h0))
    replace t0 : σ5 (h0 + 1) 0 = σ (h0 + 1) 0 := (w5 (h0 + 1) 0 (dS14_2 h0)).trans t0
    replace t1 : σ5 (h0 + 1) 1 = σ (h0 + 1) 1 := (w5 (h0 + 1) 1 (dS14_2 h0)).trans t1
    replace t2 : σ5 (h0 + 1) 4 = σ (h0 + 1) 4 := (w5 (h0 + 1) 4 (dS14_2 h0)).trans t2
    replace t3 : σ5 (h0 + 1) 6 = σ (h0 + 1) 6 := (w5 (h0 + 1) 6 (dS14_2 h0)).trans t3
    exact zz_iret hx hb hr hlocks hK hP hS dX8_body_22 (by exact ⟨hC, Or.inl ⟨by omega, by omega⟩⟩)
