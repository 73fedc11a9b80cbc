theorem gX8_hours_X8_within : GoodIn wzX8_hours (va_wsS RX8 64 yX8_within wzX8_within) := wz_co bm_112 (wz_co bm_113 (wz_co bm_2 (wz_in bm_114)))
theorem gX8_hours_X8_refuse : GoodIn wzX8_hours (wsV RX8 68 RX8 yX8_refuse wzX8_refuse) := wz_co bm_118 (wz_co bm_119 (wz_co bm_120 (wz_co bm_2 (wz_in bm_121))))
theorem gX8_hours_X2_goAnHour : GoodIn wzX8_hours (wsV RX8 191 RX2 yX2_goAnHour wzX2_goAnHour) := wz_co bm_581 (wz_co bm_582 (wz_co bm_583 (wz_co bm_15 (wz_in bm_584))))
theorem dS16_1 (x0 : Nat) : ∀ a k : Nat, (((x0 + 61) ≤ a ∧ a < (x0 + 61) + 4) ∨ a = (x0 + 1) + 23 ∨ a = (x0 + 1) + 26 ∨ ((x0 + 1) + 15 ≤ a ∧ a < (x0 + 1) + 21 ∧ k = 1) ∨ (a = (x0 + 1) ∧ k = 0)) → (a = x0 + 24 ∨ a = x0 + 27 ∨ (x0 + 58 ≤ a ∧ a ≤ x0 + 67) ∨ (a = x0 + 1 ∧ k = 0) ∨ (x0 + 16 ≤ a ∧ a < x0 + 22 ∧ k = 1)) := by intro a k h; omega
theorem dS16_2 (x0 : Nat) : ¬ (((x0 + 61) ≤ (x0 + 1) ∧ (x0 + 1) < (x0 + 61) + 4) ∨ (x0 + 1) = (x0 + 1) + 23 ∨ (x0 + 1) = (x0 + 1) + 26 ∨ ((x0 + 1) + 15 ≤ (x0 + 1) ∧ (x0 + 1) < (x0 + 1) + 21 ∧ (1) = 1) ∨ ((x0 + 1) = (x0 + 1) ∧ (1) = 0)) := by omega
theorem dS16_3 (x0 : Nat) : ¬ (((x0 + 61) ≤ (x0 + 1) ∧ (x0 + 1) < (x0 + 61) + 4) ∨ (x0 + 1) = (x0 + 1) + 23 ∨ (x0 + 1) = (x0 + 1) + 26 ∨ ((x0 + 1) + 15 ≤ (x0 + 1) ∧ (x0 + 1) < (x0 + 1) + 21 ∧ (4) = 1) ∨ ((x0 + 1) = (x0 + 1) ∧ (4) = 0)) := by omega
theorem dS16_4 (x0 : Nat) : ¬ (((x0 + 61) ≤ (x0 + 1) ∧ (x0 + 1) < (x0 + 61) + 4) ∨ (x0 + 1) = (x0 + 1) + 23 ∨ (x0 + 1) = (x0 + 1) + 26 ∨ ((x0 + 1) + 15 ≤ (x0 + 1) ∧ (x0 + 1) < (x0 + 1) + 21 ∧ (6) = 1) ∨ ((x0 + 1) = (x0 + 1) ∧ (6) = 0)) := by omega
theorem dS16_5 (x0 : Nat) : ¬ (((x0 + 61) ≤ (x0 + 1) ∧ (x0 + 1) < (x0 + 61) + 4) ∨ (x0 + 1) = (x0 + 1) + 23 ∨ (x0 + 1) = (x0 + 1) + 26 ∨ ((x0 + 1) + 15 ≤ (x0 + 1) ∧ (x0 + 1) < (x0 + 1) + 21 ∧ (9) = 1) ∨ ((x0 + 1) = (x0 + 1) ∧ (9) = 0)) := by omega
theorem dS16_6 (x0 : Nat) : ¬ (((x0 + 61) ≤ (x0 + 1) ∧ (x0 + 1) < (x0 + 61) + 4) ∨ (x0 + 1) = (x0 + 1) + 23 ∨ (x0 + 1) = (x0 + 1) + 26 ∨ ((x0 + 1) + 15 ≤ (x0 + 1) ∧ (x0 + 1) < (x0 + 1) + 21 ∧ (11) = 1) ∨ ((x0 + 1) = (x0 + 1) ∧ (11) = 0)) := by omega
theorem dS16_7 (x0 : Nat) : ¬ (((x0 + 61) ≤ (x0 + 1) ∧ (x0 + 1) < (x0 + 61) + 4) ∨ (x0 + 1) = (x0 + 1) + 23 ∨ (x0 + 1) = (x0 + 1) + 26 ∨ ((x0 + 1) + 15 ≤ (x0 + 1) ∧ (x0 + 1) < (x0 + 1) + 21 ∧ (2) = 1) ∨ ((x0 + 1) = (x0 + 1) ∧ (2) = 0)) := by omega
theorem dS16_8 (x0 : Nat) : ∀ a k : Nat, (a = (x0) + 65) → (a = x0 + 24 ∨ a = x0 + 27 ∨ (x0 + 58 ≤ a ∧ a ≤ x0 + 67) ∨ (a = x0 + 1 ∧ k = 0) ∨ (x0 + 16 ≤ a ∧ a < x0 + 22 ∧ k = 1)) := by intro a k h; omega
theorem dS16_9 (x0 : Nat) : ¬ ((x0 + 1) = (x0) + 65) := by omega
set_option maxHeartbeats 4000000 in
set_option maxRecDepth 100000 in
theorem c_X8_hours (l : Launch) (E : zz_E) (σ : zz_S) (h0 : Nat) (nn : Int32) (g0 : zz_L E h0) (hI : zz_IX σ h0) (K : zy_W) (hW : zy_XW σ (h0 + 1) K) (hFB : zy_FB (zz_PX 1 σ (h0 + 1))) : Met l yX8_hours wzX8_hours ({ frames := 6, cells := 0, slots := 0, locals := 144 }) (va_Pc [.ref h0, .int nn] (zz_B E σ)) (va_Qi (fun r σ1 => zz_ch (fun a k => a = h0 + 24 ∨ a = h0 + 27 ∨ (h0 + 58 ≤ a ∧ a ≤ h0 + 67) ∨ (a = h0 + 1 ∧ k = 0) ∨ (h0 + 16 ≤ a ∧ a < h0 + 22 ∧ k = 1)) σ σ1 ∧ (zz_IX σ1 h0 ∧ ((((nn.toInt < 1 ∨ 240 < nn.toInt) ∧ r.toInt = -1000000001 ∧ (σ1 (h0 + 1) 0).toInt = (σ (h0 + 1) 0).toInt) ∨ (1 ≤ nn.toInt ∧ nn.toInt ≤ 240 ∧ 9999 < (σ (h0 + 1) 0).toInt + nn.toInt ∧ r.toInt = -1000000003 ∧ (σ1 (h0 + 1) 0).toInt = (σ (h0 + 1) 0).toInt) ∨ (1 ≤ nn.toInt ∧ nn.toInt ≤ 240 ∧ (σ (h0 + 1) 0).toInt + nn.toInt ≤ 9999 ∧ r.toInt = (σ (h0 + 1) 0).toInt + nn.toInt ∧ (σ1 (h0 + 1) 0).toInt = (σ (h0 + 1) 0).toInt + nn.toInt)) ∧ (r.toInt < 0 → zz_PX 1 σ1 (h0 + 1) = zz_PX 1 σ (h0 + 1)) ∧ (0 ≤ r.toInt → zz_PX 1 σ1 (h0 + 1) = zy_hs K (σ (h0 + 1) 6).toInt (zz_PX 0 σ (h0 + 1)) nn.toInt.toNat (σ (h0 + 1) 0).toInt (zz_PX 1 σ (h0 + 1)))))) (zz_B E) (zz_A E)) 0 0 (zz_A E) := by
  refine zz_met (cc := cX8_hours) (maxL := 3) (ret := (some .int)) (by decide) rfl (Nat.le_of_ble_eq_true rfl) ?_
  intro p e s m args below meth c ls hx hb hr hts hown hlocks hml hK hP hS hl
  have hl : lv_has ls 3 [(0, .ref h0), (1, .int nn)] := hl
  have hown : s.vm.findClass RX8 = some m.cls := hown
  have hi2 : ∀ w ∈ wsX20, w ∈ wzX8_hours := fun w h => List.mem_cons_of_mem _ (hbw2 w h)
  have hi8 : ∀ w ∈ wsX80, w ∈ wzX8_hours := fun w h => List.mem_cons_of_mem _ (hbw8 w h)
  have k_0 : (0 : Int32).toInt = 0 := by decide +kernel
  have k_1 : (1 : Int32).toInt = 1 := by decide +kernel
  have k_3 : (3 : Int32).toInt = 3 := by decide +kernel
  have k_240 : (240 : Int32).toInt = 240 := by decide +kernel
  have k_9999 : (9999 : Int32).toInt = 9999 := by decide +kernel
  replace t0 : σ (h0 + 1) 0 = σ (h0 + 1) 0 := rfl
  replace t1 : σ (h0 + 1) 1 = σ (h0 + 1) 1 := rfl
  replace t2 : σ (h0 + 1) 4 = σ (h0 + 1) 4 := rfl
  replace t3 : σ (h0 + 1) 6 = σ (h0 + 1) 6 := rfl
  replace t4 : σ (h0 + 1) 9 = σ (h0 + 1) 9 := rfl
  replace t5 : σ (h0 + 1) 11 = σ (h0 + 1) 11 := rfl
  replace t6 : σ (h0 + 1) 2 = σ (h0 + 1) 2 := rfl
  have hC : zz_ch (fun a k => a = h0 + 24 ∨ a = h0 + 27 ∨ (h0 + 58 ≤ a ∧ a ≤ h0 + 67) ∨ (a = h0 + 1 ∧ k = 0) ∨ (h0 + 16 ≤ a ∧ a < h0 + 22 ∧ k = 1)) σ σ := zz_ch.rf σ
  obtain ⟨⟨hh, hsl, hd, hp, htc, hwc, ht, hft, hst, hid⟩, hkI, hsh, hspk⟩ := id hI
  have hct := hW.2.1
  have hlt := hW.2.2.1
  obtain ⟨FX, hFX⟩ : ∃ X : Nat → Int, zy_hs K (σ (h0 + 1) 6).toInt (zz_PX 0 σ (h0 + 1)) nn.toInt.toNat (σ (h0 + 1) 0).toInt (zz_PX 1 σ (h0 + 1)) = X := ⟨_, rfl⟩
  refine lv_iload_n hx hb dX8_hours_0 rfl (lv_at hl 1 rfl) ?_
  refine lv_iconst (v := 1) hx hb dX8_hours_1 (by decide) ?_
  refine lv_sipush (v := 240) hx hb dX8_hours_2 (by decide) ?_
  refine zz_callSp (As := [.int nn, .int 1, .int 240]) (rest := []) ⟨hx, hb, hml, hown, hts⟩ hK hP hS (c_X8_within l E σ nn 1 240) (va_cwS 3 hts gX8_hours_X8_within rfl rfl rfl (by decide +kernel) ⟨Nat.le_of_ble_eq_true rfl, Nat.le_of_ble_eq_true rfl⟩) rfl hl.1 rfl (Nat.le_of_ble_eq_true rfl) dX8_hours_5 ⟨Nat.zero_le _, Nat.zero_le _⟩ (fun r1 H locs f1 hP1 hS1 => ?_)
  replace hP := hP1
  replace hS := hS1
  clear hP1 hS1
  refine lv_if_ne (tgt := 17) hx hb dX8_hours_8 (by decide) (fun c2 => ?_) (fun c2 => ?_)
  · have c2 := zz_neT c2
    refine lv_aload_n hx hb dX8_hours_17 rfl (lv_at hl 0 rfl) ?_
    refine zz_getr hx hb hts hi8 hown hK hP (g0.1) rfl 0 (by decide) (hts (.fieldLink RX8 10 "NoonLaw" "realm" "LNoonLaw$Realm;") (List.mem_cons_of_mem _ bm_16)) rfl rfl dX8_hours_18 ?_
    refine zz_geti hx hb hts hi2 hown hK hP (g0.2.1.1) rfl 0 (by decide) (hts (.fieldLink RX8 104 "NoonLaw$Realm" "hour" "I") (List.mem_cons_of_mem _ bm_166)) rfl rfl t0 dX8_hours_21 ?_
    refine lv_sipush (v := 9999) hx hb dX8_hours_24 (by decide) ?_
    refine lv_iload_n hx hb dX8_hours_27 rfl (lv_at hl 1 rfl) ?_
    refine lv_isub hx hb dX8_hours_28 ?_
    refine lv_topi (fun n3 e3 => ?_)
    have f3 : n3.toInt = (9999 : Int32).toInt - (nn).toInt := zz_subT e3 (by omega) (by omega)
    refine lv_icmp_le (tgt := 38) hx hb dX8_hours_29 (by decide) (fun c4 => ?_) (fun c4 => ?_)
    · have c4 := zz_leT c4
      refine lv_iconst (v := 0) hx hb dX8_hours_38 (by decide) ?_
      refine lv_istore_n (lv' := [(2, .int 0), (0, .ref h0), (1, .int nn)]) hx hb dX8_hours_39 rfl hl (by decide) rfl (fun ls hl => ?_)
      have J40 : ∀ (n : Nat) (ii : Int32) (hv : Int32) (σa : zz_S) (H : Heap) (locs : List Loc) (ls : Array Slot), ((240 - ii.toInt).toNat) < n → (zz_ch (fun a k => a = h0 + 24 ∨ a = h0 + 27 ∨ (h0 + 58 ≤ a ∧ a ≤ h0 + 67) ∨ (a = h0 + 1 ∧ k = 0) ∨ (h0 + 16 ≤ a ∧ a < h0 + 22 ∧ k = 1)) σ σa) → (0 ≤ ii.toInt ∧ ii.toInt ≤ nn.toInt) → (hv.toInt = (σ (h0 + 1) 0).toInt + ii.toInt) → (zy_hs K (σ (h0 + 1) 6).toInt (zz_PX 0 σ (h0 + 1)) (nn.toInt.toNat - ii.toInt.toNat) hv.toInt (zz_PX 1 σa (h0 + 1)) = FX) → (zy_FB (zz_PX 1 σa (h0 + 1))) → (σa (h0 + 1) 0 = hv) → (σa (h0 + 1) 1 = σ (h0 + 1) 1) → (σa (h0 + 1) 4 = σ (h0 + 1) 4) → (σa (h0 + 1) 6 = σ (h0 + 1) 6) → (σa (h0 + 1) 9 = σ (h0 + 1) 9) → (σa (h0 + 1) 11 = σ (h0 + 1) 11) → (σa (h0 + 1) 2 = σ (h0 + 1) 2) → zz_P E σa H → va_S (zz_A E) s.heap H locs → lv_has ls 3 [(2, .int ii), (0, .ref h0), (1, .int nn)] → W p l e (headSpec wzX8_hours ({ frames := 6, cells := 0, slots := 0, locals := 144 })).room s m args below meth c H locs 0 0 (MQ below (va_Qi (fun r σ1 => zz_ch (fun a k => a = h0 + 24 ∨ a = h0 + 27 ∨ (h0 + 58 ≤ a ∧ a ≤ h0 + 67) ∨ (a = h0 + 1 ∧ k = 0) ∨ (h0 + 16 ≤ a ∧ a < h0 + 22 ∧ k = 1)) σ σ1 ∧ (zz_IX σ1 h0 ∧ ((((nn.toInt < 1 ∨ 240 < nn.toInt) ∧ r.toInt = -1000000001 ∧ (σ1 (h0 + 1) 0).toInt = (σ (h0 + 1) 0).toInt) ∨ (1 ≤ nn.toInt ∧ nn.toInt ≤ 240 ∧ 9999 < (σ (h0 + 1) 0).toInt + nn.toInt ∧ r.toInt = -1000000003 ∧ (σ1 (h0 + 1) 0).toInt = (σ (h0 + 1) 0).toInt) ∨ (1 ≤ nn.toInt ∧ nn.toInt ≤ 240 ∧ (σ (h0 + 1) 0).toInt + nn.toInt ≤ 9999 ∧ r.toInt = (σ (h0 + 1) 0).toInt + nn.toInt ∧ (σ1 (h0 + 1) 0).toInt = (σ (h0 + 1) 0).toInt + nn.toInt)) ∧ (r.toInt < 0 → zz_PX 1 σ1 (h0 + 1) = zz_PX 1 σ (h0 + 1)) ∧ (0 ≤ r.toInt → zz_PX 1 σ1 (h0 + 1) = zy_hs K (σ (h0 + 1) 6).toInt (zz_PX 0 σ (h0 + 1)) nn.toInt.toNat (σ (h0 + 1) 0).toInt (zz_PX 1 σ (h0 + 1)))))) (zz_B E) (zz_A E)) args s 0 0 (zz_A E)) (F0 m 40 ls []) := by
        intro n
        induction n with
        | zero => intro ii hv σa H locs ls hm; exact absurd hm (Nat.not_lt_zero _)
        | succ n ih40 =>
          intro ii hv σa H locs ls hm hC f40_0 f40_1 f40_2 f40_3 t0 t1 t2 t3 t4 t5 t6 hP hS hl
          have hV0 := zz_PXk (f := 0) (r := h0 + 1) hC (by intro j hj; first | (dsimp only; omega) | omega)
          refine lv_iload_n hx hb dX8_hours_40 rfl (lv_at hl 0 rfl) ?_
          refine lv_iload_n hx hb dX8_hours_41 rfl (lv_at hl 2 rfl) ?_
          refine lv_icmp_ge (tgt := 62) hx hb dX8_hours_42 (by decide) (fun c5 => ?_) (fun c5 => ?_)
          · have c5 := zz_leT c5
            refine lv_aload_n hx hb dX8_hours_62 rfl (lv_at hl 1 rfl) ?_
            refine zz_getr hx hb hts hi8 hown hK hP (g0.1) rfl 0 (by decide) (hts (.fieldLink RX8 10 "NoonLaw" "realm" "LNoonLaw$Realm;") (List.mem_cons_of_mem _ bm_16)) rfl rfl dX8_hours_63 ?_
            refine zz_geti hx hb hts hi2 hown hK hP (g0.2.1.1) rfl 0 (by decide) (hts (.fieldLink RX8 104 "NoonLaw$Realm" "hour" "I") (List.mem_cons_of_mem _ bm_166)) rfl rfl t0 dX8_hours_66 ?_
            have hz0 : nn.toInt.toNat - ii.toInt.toNat = 0 := (by omega)
            rw [hz0] at f40_2
            exact zz_iret hx hb hr hlocks hK hP hS dX8_hours_69 (by exact ⟨hC, (hI.scal (hC.mono (by intro a k h; first | (dsimp only at h ⊢; omega) | omega)) (by rw [t0]; omega) (by rw [t1]; omega) (by rw [t2]; omega) (by rw [t3]; omega) (by rw [t4]; omega) (by rw [t5]; omega) (by rw [zz_DXk (r := (h0 + 1)) hC (by intro j hj k hk; first | (dsimp only; omega) | omega)]; exact hid)), by rw [t0]; omega, (fun q => absurd q (by rw [← t0]; omega)), (fun _ => (zy_hs_0 f40_2 rfl).trans hFX.symm)⟩)
          · have c5 := zz_nleT c5
            refine lv_aload_n hx hb dX8_hours_45 rfl (lv_at hl 1 rfl) ?_
            refine zz_getr hx hb hts hi8 hown hK hP (g0.1) rfl 0 (by decide) (hts (.fieldLink RX8 10 "NoonLaw" "realm" "LNoonLaw$Realm;") (List.mem_cons_of_mem _ bm_16)) rfl rfl dX8_hours_46 ?_
            refine lv_aload_n hx hb dX8_hours_49 rfl (lv_at hl 1 rfl) ?_
            refine zz_getr hx hb hts hi8 hown hK hP (g0.1) rfl 6 (by decide) (hts (.fieldLink RX8 42 "NoonLaw" "sight" "LNoonLaw$Sight;") (List.mem_cons_of_mem _ bm_31)) rfl rfl dX8_hours_50 ?_
            refine zz_callVv (As := [.ref (h0 + 61)]) (rest := []) ⟨hx, hb, hml, hown, hts⟩ hK hP hS (c_X2_goAnHour l E σa (h0 + 1) (h0 + 61) (g0.2.1) (g0.2.2.2.2.2.2.2.1) (by rw [t2]; exact hd) (by rw [t3]; exact hp) (by rw [t0]; omega) (by intro j hj; rw [(hC _ _ (by first | (dsimp only; omega) | omega))]; exact ht j hj) (by omega) K (by exact hW.keep (fun a k q => hC a k (by first | (dsimp only; omega) | omega))) (by exact f40_3)) (cwV 1 hts gX8_hours_X2_goAnHour rfl rfl rfl (by decide +kernel) ⟨Nat.le_of_ble_eq_true rfl, Nat.le_of_ble_eq_true rfl⟩) (g0.2.1.1) rfl rfl hl.1 rfl (Nat.le_of_ble_eq_true rfl) dX8_hours_53 ⟨Nat.zero_le _, Nat.zero_le _⟩ (fun σ6 H locs q6 hP1 hS1 => ?_)
            replace hP := hP1
            replace hS := hS1
            clear hP1 hS1
            try dsimp only at q6
            obtain ⟨w6, f6⟩ := q6
            replace hC := hC.tr (w6.mono (dS16_1 h0))
            try simp only [t0, t1, t2, t3, t4, t5, t6] at f6
            replace t0 : σ6 (h0 + 1) 0 = σ6 (h0 + 1) 0 := rfl
            replace t1 : σ6 (h0 + 1) 1 = σ (h0 + 1) 1 := (w6 (h0 + 1) 1 (dS16_2 h0)).trans t1
            replace t2 : σ6 (h0 + 1) 4 = σ (h0 + 1) 4 := (w6 (h0 + 1) 4 (dS16_3 h0)).trans t2
            replace t3 : σ6 (h0 + 1) 6 = σ (h0 + 1) 6 := (w6 (h0 + 1) 6 (dS16_4 h0)).trans t3
            replace t4 : σ6 (h0 + 1) 9 = σ (h0 + 1) 9 := (w6 (h0 + 1) 9 (dS16_5 h0)).trans t4
            replace t5 : σ6 (h0 + 1) 11 = σ (h0 + 1) 11 := (w6 (h0 + 1) 11 (dS16_6 h0)).trans t5
            replace t6 : σ6 (h0 + 1) 2 = σ (h0 + 1) 2 := (w6 (h0 + 1) 2 (dS16_7 h0)).trans t6
            obtain ⟨n7, e7⟩ : ∃ y : Int32, y = ii + 1 := ⟨_, rfl⟩
            have f7 : n7.toInt = (ii).toInt + (1) := by have h9 := zz_addT e7 (by omega) (by omega); omega
            refine lv_iinc (v := n7) (lv' := [(2, .int n7), (0, .ref h0), (1, .int nn)]) hx hb dX8_hours_56 hl (k := 0) rfl (by rw [e7]; rfl) (by decide) rfl (fun ls hl => ?_)
            refine lv_goto (tgt := 40) hx hb dX8_hours_59 (by decide) ?_
            exact ih40 n7 (σ6 (h0 + 1) 0) σ6 _ _ _ (by omega) hC (by first | omega | exact ht | (rw [t0]; omega) | (rw [t1]; omega) | (rw [t2]; omega) | (rw [t3]; omega) | (intro j hj; rw [(hC _ _ (by first | (dsimp only; omega) | omega))]; exact ht j hj)) (by first | omega | exact ht | (rw [t0]; omega) | (rw [t1]; omega) | (rw [t2]; omega) | (rw [t3]; omega) | (intro j hj; rw [(hC _ _ (by first | (dsimp only; omega) | omega))]; exact ht j hj)) (by rw [f6.2, hV0]; exact zy_hs_s f40_2 (by omega) (by omega)) (by rw [f6.2]; exact zy_FB.ag f40_3) t0 t1 t2 t3 t4 t5 t6 hP hS (lv_sub hl [0, 1, 2] rfl)
      exact J40 _ 0 (σ (h0 + 1) 0) σ _ _ _ (Nat.lt_succ_self _) hC (by first | omega | exact ht | (rw [t0]; omega) | (rw [t1]; omega) | (rw [t2]; omega) | (rw [t3]; omega) | (intro j hj; rw [(hC _ _ (by first | (dsimp only; omega) | omega))]; exact ht j hj)) (by first | omega | exact ht | (rw [t0]; omega) | (rw [t1]; omega) | (rw [t2]; omega) | (rw [t3]; omega) | (intro j hj; rw [(hC _ _ (by first | (dsimp only; omega) | omega))]; exact ht j hj)) (by rw [zz_n0]; exact hFX) (by exact hFB) t0 t1 t2 t3 t4 t5 t6 hP hS (lv_sub hl [0, 1, 2] rfl)
    · have c4 := zz_nleT c4
      refine lv_aload_n hx hb dX8_hours_32 rfl (lv_at hl 0 rfl) ?_
      refine lv_iconst (v := 3) hx hb dX8_hours_33 (by decide) ?_
      refine zz_callVi (As := [.int 3]) (rest := []) ⟨hx, hb, hml, hown, hts⟩ hK hP hS (c_X8_refuse l E σ h0 3 g0 (by omega)) (cwV 1 hts gX8_hours_X8_refuse rfl rfl rfl (by decide +kernel) ⟨Nat.le_of_ble_eq_true rfl, Nat.le_of_ble_eq_true rfl⟩) (g0.1) rfl rfl hl.1 rfl (Nat.le_of_ble_eq_true rfl) dX8_hours_34 ⟨Nat.zero_le _, Nat.zero_le _⟩ (fun r8 σ8 H locs q8 hP1 hS1 => ?_)
      replace hP := hP1
      replace hS := hS1
      clear hP1 hS1
      try dsimp only at q8
      obtain ⟨w8, f8⟩ := q8
      replace hC := hC.tr (w8.mono (dS16_8 h0))
      replace t0 : σ8 (h0 + 1) 0 = σ (h0 + 1) 0 := (w8 (h0 + 1) 0 (dS16_9 h0)).trans t0
      replace t1 : σ8 (h0 + 1) 1 = σ (h0 + 1) 1 := (w8 (h0 + 1) 1 (dS16_9 h0)).trans t1
      replace t2 : σ8 (h0 + 1) 4 = σ (h0 + 1) 4 := (w8 (h0 + 1) 4 (dS16_9 h0)).trans t2
      replace t3 : σ8 (h0 + 1) 6 = σ (h0 + 1) 6 := (w8 (h0 + 1) 6 (dS16_9 h0)).trans t3
      replace t4 : σ8 (h0 + 1) 9 = σ (h0 + 1) 9 := (w8 (h0 + 1) 9 (dS16_9 h0)).trans t4
      replace t5 : σ8 (h0 + 1) 11 = σ (h0 + 1) 11 := (w8 (h0 + 1) 11 (dS16_9 h0)).trans t5
      replace t6 : σ8 (h0 + 1) 2 = σ (h0 + 1) 2 := (w8 (h0 + 1) 2 (dS16_9 h0)).trans t6
      exact zz_iret hx hb hr hlocks hK hP hS dX8_hours_37 (by exact ⟨hC, (hI.soft (w8.mono (by intro a k h; omega))), by rw [t0]; omega, (fun _ => zz_PXk (f := 1) (r := h0 + 1) w8 (by intro j hj; first | (dsimp only; omega) | omega)), (fun q => absurd q (by omega))⟩)
  · have c2 := zz_eqT c2
    refine lv_aload_n hx hb dX8_hours_11 rfl (lv_at hl 0 rfl) ?_
    refine lv_iconst (v := 1) hx hb dX8_hours_12 (by decide) ?_
    refine zz_callVi (As := [.int 1]) (rest := []) ⟨hx, hb, hml, hown, hts⟩ hK hP hS (c_X8_refuse l E σ h0 1 g0 (by omega)) (cwV 1 hts gX8_hours_X8_refuse rfl rfl rfl (by decide +kernel) ⟨Nat.le_of_ble_eq_true rfl, Nat.le_of_ble_eq_true rfl⟩) (g0.1) rfl rfl hl.1 rfl (Nat.le_of_ble_eq_true rfl) dX8_hours_13 ⟨Nat.zero_le _, Nat.zero_le _⟩ (fun r9 σ9 H locs q9 hP1 hS1 => ?_)
    replace hP := hP1
    replace hS := hS1
    clear hP1 hS1
    try dsimp only at q9
    obtain ⟨w9, f9⟩ := q9
    replace hC := hC.tr (w9.mono (dS16_8 h0))
    replace t0 : σ9 (h0 + 1) 0 = σ (h0 + 1) 0 := (w9 (h0 + 1) 0 (dS16_9 h0)).trans t0
    replace t1 : σ9 (h0 + 1) 1 = σ (h0 + 1) 1 := (w9 (h0 + 1) 1 (dS16_9 h0)).trans t1
    replace t2 : σ9 (h0 + 1) 4 = σ (h0 + 1) 4 := (w9 (h0 + 1) 4 (dS16_9 h0)).trans t2
    replace t3 : σ9 (h0 + 1) 6 = σ (h0 + 1) 6 := (w9 (h0 + 1) 6 (dS16_9 h0)).trans t3
    replace t4 : σ9 (h0 + 1) 9 = σ (h0 + 1) 9 := (w9 (h0 + 1) 9 (dS16_9 h0)).trans t4
    replace t5 : σ9 (h0 + 1) 11 = σ (h0 + 1) 11 := (w9 (h0 + 1) 11 (dS16_9 h0)).trans t5
    replace t6 : σ9 (h0 + 1) 2 = σ (h0 + 1) 2 := (w9 (h0 + 1) 2 (dS16_9 h0)).trans t6
    exact zz_iret hx hb hr hlocks hK hP hS dX8_hours_16 (by exact ⟨hC, (hI.soft (w9.mono (by intro a k h; omega))), by rw [t0]; omega, (fun _ => zz_PXk (f := 1) (r := h0 + 1) w9 (by intro j hj; first | (dsimp only; omega) | omega)), (fun q => absurd q (by omega))⟩)
theorem gX8_loose_X8_within : GoodIn wzX8_loose (va_wsS RX8 64 yX8_within wzX8_within) := wz_co bm_112 (wz_co bm_113 (wz_co bm_2 (wz_in bm_114)))
theorem gX8_loose_X8_refuse : GoodIn wzX8_loose (wsV RX8 68 RX8 yX8_refuse wzX8_refuse) := wz_co bm_118 (wz_co bm_119 (wz_co bm_120 (wz_co bm_2 (wz_in bm_121))))
theorem gX8_loose_X2_dreamByDraws : GoodIn wzX8_loose (wsV RX8 195 RX2 yX2_dreamByDraws wzX2_dreamByDraws) := wz_co bm_601 (wz_co bm_602 (wz_co bm_603 (wz_co bm_15 (wz_in bm_604))))
theorem gX8_loose_X2_goAnHour : GoodIn wzX8_loose (wsV RX8 191 RX2 yX2_goAnHour wzX2_goAnHour) := wz_co bm_581 (wz_co bm_582 (wz_co bm_583 (wz_co bm_15 (wz_in bm_584))))
theorem dS16_10 (x0 : Nat) : ∀ a k : Nat, ((a = (x0 + 1) ∧ (k = 2 ∨ k = 4)) ∨ ((x0 + 1) + 6 ≤ a ∧ a < (x0 + 1) + 15)) → (a = x0 + 24 ∨ a = x0 + 27 ∨ (x0 + 58 ≤ a ∧ a ≤ x0 + 67) ∨ (a = x0 + 1 ∧ (k = 0 ∨ k = 2 ∨ k = 4)) ∨ (x0 + 7 ≤ a ∧ a < x0 + 16) ∨ (x0 + 16 ≤ a ∧ a < x0 + 22 ∧ k = 1)) := by intro a k h; omega
theorem dS16_11 (x0 : Nat) : ¬ (((x0 + 1) = (x0 + 1) ∧ ((0) = 2 ∨ (0) = 4)) ∨ ((x0 + 1) + 6 ≤ (x0 + 1) ∧ (x0 + 1) < (x0 + 1) + 15)) := by omega
theorem dS16_12 (x0 : Nat) : ¬ (((x0 + 1) = (x0 + 1) ∧ ((1) = 2 ∨ (1) = 4)) ∨ ((x0 + 1) + 6 ≤ (x0 + 1) ∧ (x0 + 1) < (x0 + 1) + 15)) := by omega
theorem dS16_13 (x0 : Nat) : ¬ (((x0 + 1) = (x0 + 1) ∧ ((6) = 2 ∨ (6) = 4)) ∨ ((x0 + 1) + 6 ≤ (x0 + 1) ∧ (x0 + 1) < (x0 + 1) + 15)) := by omega
theorem dS16_14 (x0 : Nat) : ¬ (((x0 + 1) = (x0 + 1) ∧ ((9) = 2 ∨ (9) = 4)) ∨ ((x0 + 1) + 6 ≤ (x0 + 1) ∧ (x0 + 1) < (x0 + 1) + 15)) := by omega
theorem dS16_15 (x0 : Nat) : ¬ (((x0 + 1) = (x0 + 1) ∧ ((11) = 2 ∨ (11) = 4)) ∨ ((x0 + 1) + 6 ≤ (x0 + 1) ∧ (x0 + 1) < (x0 + 1) + 15)) := by omega
theorem dS16_16 (x0 : Nat) : ∀ a k : Nat, (((x0 + 61) ≤ a ∧ a < (x0 + 61) + 4) ∨ a = (x0 + 1) + 23 ∨ a = (x0 + 1) + 26 ∨ ((x0 + 1) + 15 ≤ a ∧ a < (x0 + 1) + 21 ∧ k = 1) ∨ (a = (x0 + 1) ∧ k = 0)) → (a = x0 + 24 ∨ a = x0 + 27 ∨ (x0 + 58 ≤ a ∧ a ≤ x0 + 67) ∨ (a = x0 + 1 ∧ (k = 0 ∨ k = 2 ∨ k = 4)) ∨ (x0 + 7 ≤ a ∧ a < x0 + 16) ∨ (x0 + 16 ≤ a ∧ a < x0 + 22 ∧ k = 1)) := by intro a k h; omega
theorem dS16_17 (x0 : Nat) : ∀ a k : Nat, (a = (x0) + 65) → (a = x0 + 24 ∨ a = x0 + 27 ∨ (x0 + 58 ≤ a ∧ a ≤ x0 + 67) ∨ (a = x0 + 1 ∧ (k = 0 ∨ k = 2 ∨ k = 4)) ∨ (x0 + 7 ≤ a ∧ a < x0 + 16) ∨ (x0 + 16 ≤ a ∧ a < x0 + 22 ∧ k = 1)) := by intro a k h; omega
set_option maxHeartbeats 4000000 in
set_option maxRecDepth 100000 in
theorem c_X8_loose (l : Launch) (E : zz_E) (σ : zz_S) (h0 : Nat) (nn : Int32) (g0 : zz_L E h0) (hI : zz_IX σ h0) (K : zy_W) (hW : zy_XW σ (h0 + 1) K) (hFB : zy_FB (zz_PX 1 σ (h0 + 1))) : Met l yX8_loose wzX8_loose ({ frames := 6, cells := 0, slots := 0, locals := 144 }) (va_Pc [.ref h0, .int nn] (zz_B E σ)) (va_Qi (fun r σ1 => zz_ch (fun a k => a = h0 + 24 ∨ a = h0 + 27 ∨ (h0 + 58 ≤ a ∧ a ≤ h0 + 67) ∨ (a = h0 + 1 ∧ (k = 0 ∨ k = 2 ∨ k = 4)) ∨ (h0 + 7 ≤ a ∧ a < h0 + 16) ∨ (h0 + 16 ≤ a ∧ a < h0 + 22 ∧ k = 1)) σ σ1 ∧ (zz_IX σ1 h0 ∧ (((nn.toInt < 1 ∨ 48 < nn.toInt) ∧ r.toInt = -1000000001 ∧ σ1 (h0 + 1) 0 = σ (h0 + 1) 0 ∧ σ1 (h0 + 1) 2 = σ (h0 + 1) 2 ∧ σ1 (h0 + 1) 4 = σ (h0 + 1) 4 ∧ zz_PX 1 σ1 (h0 + 1) = zz_PX 1 σ (h0 + 1) ∧ zz_DX σ1 (h0 + 1) = zz_DX σ (h0 + 1)) ∨ ((1 ≤ nn.toInt ∧ nn.toInt ≤ 48) ∧ 9999 < (σ (h0 + 1) 0).toInt + nn.toInt ∧ r.toInt = -1000000003 ∧ σ1 (h0 + 1) 0 = σ (h0 + 1) 0 ∧ σ1 (h0 + 1) 2 = σ (h0 + 1) 2 ∧ σ1 (h0 + 1) 4 = σ (h0 + 1) 4 ∧ zz_PX 1 σ1 (h0 + 1) = zz_PX 1 σ (h0 + 1) ∧ zz_DX σ1 (h0 + 1) = zz_DX σ (h0 + 1)) ∨ ((1 ≤ nn.toInt ∧ nn.toInt ≤ 48) ∧ (σ (h0 + 1) 0).toInt + nn.toInt ≤ 9999 ∧ r.toInt = zz_lo nn.toInt.toNat (σ (h0 + 1) 0).toInt (σ (h0 + 1) 1).toInt (σ (h0 + 1) 4).toInt ∧ (σ1 (h0 + 1) 0).toInt = (σ (h0 + 1) 0).toInt + nn.toInt ∧ (σ1 (h0 + 1) 4).toInt = zz_lo nn.toInt.toNat (σ (h0 + 1) 0).toInt (σ (h0 + 1) 1).toInt (σ (h0 + 1) 4).toInt ∧ σ1 (h0 + 1) 2 = zz_lz nn.toInt.toNat (σ (h0 + 1) 0).toInt (σ (h0 + 1) 1).toInt (σ (h0 + 1) 4).toInt (σ (h0 + 1) 2) ∧ zz_PX 1 σ1 (h0 + 1) = zy_lf K.1 (σ (h0 + 1) 1).toInt (σ (h0 + 1) 6).toInt (zz_PX 0 σ (h0 + 1)) nn.toInt.toNat (σ (h0 + 1) 0).toInt (σ (h0 + 1) 4).toInt (σ (h0 + 1) 2) (zz_DX σ (h0 + 1)) (zz_PX 1 σ (h0 + 1)) ∧ zz_DX σ1 (h0 + 1) = zz_ld nn.toInt.toNat (σ (h0 + 1) 0).toInt (σ (h0 + 1) 1).toInt (σ (h0 + 1) 4).toInt (σ (h0 + 1) 2) (zz_DX σ (h0 + 1)))))) (zz_B E) (zz_A E)) 0 0 (zz_A E) := by
  refine zz_met (cc := cX8_loose) (maxL := 3) (ret := (some .int)) (by decide) rfl (Nat.le_of_ble_eq_true rfl) ?_
  intro p e s m args below meth c ls hx hb hr hts hown hlocks hml hK hP hS hl
  have hl : lv_has ls 3 [(0, .ref h0), (1, .int nn)] := hl
  have hown : s.vm.findClass RX8 = some m.cls := hown
  have hi2 : ∀ w ∈ wsX20, w ∈ wzX8_loose := fun w h => List.mem_cons_of_mem _ (hbw2 w h)
  have hi8 : ∀ w ∈ wsX80, w ∈ wzX8_loose := fun w h => List.mem_cons_of_mem _ (hbw8 w h)
  have k_0 : (0 : Int32).toInt = 0 := by decide +kernel
  have k_1 : (1 : Int32).toInt = 1 := by decide +kernel
  have k_3 : (3 : Int32).toInt = 3 := by decide +kernel
  have k_48 : (48 : Int32).toInt = 48 := by decide +kernel
  have k_9999 : (9999 : Int32).toInt = 9999 := by decide +kernel
  replace t0 : σ (h0 + 1) 0 = σ (h0 + 1) 0 := rfl
  replace t1 : σ (h0 + 1) 1 = σ (h0 + 1) 1 := rfl
  replace t2 : σ (h0 + 1) 4 = σ (h0 + 1) 4 := rfl
  replace t3 : σ (h0 + 1) 6 = σ (h0 + 1) 6 := rfl
  replace t4 : σ (h0 + 1) 9 = σ (h0 + 1) 9 := rfl
  replace t5 : σ (h0 + 1) 11 = σ (h0 + 1) 11 := rfl
  replace t6 : σ (h0 + 1) 2 = σ (h0 + 1) 2 := rfl
  have hC : zz_ch (fun a k => a = h0 + 24 ∨ a = h0 + 27 ∨ (h0 + 58 ≤ a ∧ a ≤ h0 + 67) ∨ (a = h0 + 1 ∧ (k = 0 ∨ k = 2 ∨ k = 4)) ∨ (h0 + 7 ≤ a ∧ a < h0 + 16) ∨ (h0 + 16 ≤ a ∧ a < h0 + 22 ∧ k = 1)) σ σ := zz_ch.rf σ
  obtain ⟨⟨hh, hsl, hd, hp, htc, hwc, ht, hft, hst, hid⟩, hkI, hsh, hspk⟩ := id hI
  have hct := hW.2.1
  have hlt := hW.2.2.1
  obtain ⟨FX, hFX⟩ : ∃ X : Nat → Int, zy_lf K.1 (σ (h0 + 1) 1).toInt (σ (h0 + 1) 6).toInt (zz_PX 0 σ (h0 + 1)) nn.toInt.toNat (σ (h0 + 1) 0).toInt (σ (h0 + 1) 4).toInt (σ (h0 + 1) 2) (zz_DX σ (h0 + 1)) (zz_PX 1 σ (h0 + 1)) = X := ⟨_, rfl⟩
  refine lv_iload_n hx hb dX8_loose_0 rfl (lv_at hl 1 rfl) ?_
  refine lv_iconst (v := 1) hx hb dX8_loose_1 (by decide) ?_
  refine lv_bipush (v := 48) hx hb dX8_loose_2 (by decide) ?_
  refine zz_callSp (As := [.int nn, .int 1, .int 48]) (rest := []) ⟨hx, hb, hml, hown, hts⟩ hK hP hS (c_X8_within l E σ nn 1 48) (va_cwS 3 hts gX8_loose_X8_within rfl rfl rfl (by decide +kernel) ⟨Nat.le_of_ble_eq_true rfl, Nat.le_of_ble_eq_true rfl⟩) rfl hl.1 rfl (Nat.le_of_ble_eq_true rfl) dX8_loose_4 ⟨Nat.zero_le _, Nat.zero_le _⟩ (fun r1 H locs f1 hP1 hS1 => ?_)
  replace hP := hP1
  replace hS := hS1
  clear hP1 hS1
  refine lv_if_ne (tgt := 16) hx hb dX8_loose_7 (by decide) (fun c2 => ?_) (fun c2 => ?_)
  · have c2 := zz_neT c2
    refine lv_aload_n hx hb dX8_loose_16 rfl (lv_at hl 0 rfl) ?_
    refine zz_getr hx hb hts hi8 hown hK hP (g0.1) rfl 0 (by decide) (hts (.fieldLink RX8 10 "NoonLaw" "realm" "LNoonLaw$Realm;") (List.mem_cons_of_mem _ bm_16)) rfl rfl dX8_loose_17 ?_
    refine zz_geti hx hb hts hi2 hown hK hP (g0.2.1.1) rfl 0 (by decide) (hts (.fieldLink RX8 104 "NoonLaw$Realm" "hour" "I") (List.mem_cons_of_mem _ bm_166)) rfl rfl t0 dX8_loose_20 ?_
    refine lv_sipush (v := 9999) hx hb dX8_loose_23 (by decide) ?_
    refine lv_iload_n hx hb dX8_loose_26 rfl (lv_at hl 1 rfl) ?_
    refine lv_isub hx hb dX8_loose_27 ?_
    refine lv_topi (fun n3 e3 => ?_)
    have f3 : n3.toInt = (9999 : Int32).toInt - (nn).toInt := zz_subT e3 (by omega) (by omega)
    refine lv_icmp_le (tgt := 37) hx hb dX8_loose_28 (by decide) (fun c4 => ?_) (fun c4 => ?_)
    · have c4 := zz_leT c4
      refine lv_iconst (v := 0) hx hb dX8_loose_37 (by decide) ?_
      refine lv_istore_n (lv' := [(2, .int 0), (0, .ref h0), (1, .int nn)]) hx hb dX8_loose_38 rfl hl (by decide) rfl (fun ls hl => ?_)
      have J39 : ∀ (n : Nat) (ii : Int32) (hv : Int32) (dv : Int32) (zv : Int32) (σa : zz_S) (H : Heap) (locs : List Loc) (ls : Array Slot), ((48 - ii.toInt).toNat) < n → (zz_ch (fun a k => a = h0 + 24 ∨ a = h0 + 27 ∨ (h0 + 58 ≤ a ∧ a ≤ h0 + 67) ∨ (a = h0 + 1 ∧ (k = 0 ∨ k = 2 ∨ k = 4)) ∨ (h0 + 7 ≤ a ∧ a < h0 + 16) ∨ (h0 + 16 ≤ a ∧ a < h0 + 22 ∧ k = 1)) σ σa) → ((0 ≤ ii.toInt ∧ ii.toInt ≤ nn.toInt) ∧ 0 ≤ dv.toInt ∧ dv.toInt ≤ 9) → (hv.toInt = (σ (h0 + 1) 0).toInt + ii.toInt) → (zz_lo (nn.toInt.toNat - ii.toInt.toNat) hv.toInt (σ (h0 + 1) 1).toInt dv.toInt = zz_lo nn.toInt.toNat (σ (h0 + 1) 0).toInt (σ (h0 + 1) 1).toInt (σ (h0 + 1) 4).toInt) → (zz_lz (nn.toInt.toNat - ii.toInt.toNat) hv.toInt (σ (h0 + 1) 1).toInt dv.toInt zv = zz_lz nn.toInt.toNat (σ (h0 + 1) 0).toInt (σ (h0 + 1) 1).toInt (σ (h0 + 1) 4).toInt (σ (h0 + 1) 2)) → (zz_ld (nn.toInt.toNat - ii.toInt.toNat) hv.toInt (σ (h0 + 1) 1).toInt dv.toInt zv (zz_DX σa (h0 + 1)) = zz_ld nn.toInt.toNat (σ (h0 + 1) 0).toInt (σ (h0 + 1) 1).toInt (σ (h0 + 1) 4).toInt (σ (h0 + 1) 2) (zz_DX σ (h0 + 1))) → (zz_ID (zz_DX σa (h0 + 1))) → (zy_lf K.1 (σ (h0 + 1) 1).toInt (σ (h0 + 1) 6).toInt (zz_PX 0 σ (h0 + 1)) (nn.toInt.toNat - ii.toInt.toNat) hv.toInt dv.toInt zv (zz_DX σa (h0 + 1)) (zz_PX 1 σa (h0 + 1)) = FX) → (zy_FB (zz_PX 1 σa (h0 + 1))) → (σa (h0 + 1) 0 = hv) → (σa (h0 + 1) 1 = σ (h0 + 1) 1) → (σa (h0 + 1) 4 = dv) → (σa (h0 + 1) 6 = σ (h0 + 1) 6) → (σa (h0 + 1) 9 = σ (h0 + 1) 9) → (σa (h0 + 1) 11 = σ (h0 + 1) 11) → (σa (h0 + 1) 2 = zv) → zz_P E σa H → va_S (zz_A E) s.heap H locs → lv_has ls 3 [(2, .int ii), (0, .ref h0), (1, .int nn)] → W p l e (headSpec wzX8_loose ({ frames := 6, cells := 0, slots := 0, locals := 144 })).room s m args below meth c H locs 0 0 (MQ below (va_Qi (fun r σ1 => zz_ch (fun a k => a = h0 + 24 ∨ a = h0 + 27 ∨ (h0 + 58 ≤ a ∧ a ≤ h0 + 67) ∨ (a = h0 + 1 ∧ (k = 0 ∨ k = 2 ∨ k = 4)) ∨ (h0 + 7 ≤ a ∧ a < h0 + 16) ∨ (h0 + 16 ≤ a ∧ a < h0 + 22 ∧ k = 1)) σ σ1 ∧ (zz_IX σ1 h0 ∧ (((nn.toInt < 1 ∨ 48 < nn.toInt) ∧ r.toInt = -1000000001 ∧ σ1 (h0 + 1) 0 = σ (h0 + 1) 0 ∧ σ1 (h0 + 1) 2 = σ (h0 + 1) 2 ∧ σ1 (h0 + 1) 4 = σ (h0 + 1) 4 ∧ zz_PX 1 σ1 (h0 + 1) = zz_PX 1 σ (h0 + 1) ∧ zz_DX σ1 (h0 + 1) = zz_DX σ (h0 + 1)) ∨ ((1 ≤ nn.toInt ∧ nn.toInt ≤ 48) ∧ 9999 < (σ (h0 + 1) 0).toInt + nn.toInt ∧ r.toInt = -1000000003 ∧ σ1 (h0 + 1) 0 = σ (h0 + 1) 0 ∧ σ1 (h0 + 1) 2 = σ (h0 + 1) 2 ∧ σ1 (h0 + 1) 4 = σ (h0 + 1) 4 ∧ zz_PX 1 σ1 (h0 + 1) = zz_PX 1 σ (h0 + 1) ∧ zz_DX σ1 (h0 + 1) = zz_DX σ (h0 + 1)) ∨ ((1 ≤ nn.toInt ∧ nn.toInt ≤ 48) ∧ (σ (h0 + 1) 0).toInt + nn.toInt ≤ 9999 ∧ r.toInt = zz_lo nn.toInt.toNat (σ (h0 + 1) 0).toInt (σ (h0 + 1) 1).toInt (σ (h0 + 1) 4).toInt ∧ (σ1 (h0 + 1) 0).toInt = (σ (h0 + 1) 0).toInt + nn.toInt ∧ (σ1 (h0 + 1) 4).toInt = zz_lo nn.toInt.toNat (σ (h0 + 1) 0).toInt (σ (h0 + 1) 1).toInt (σ (h0 + 1) 4).toInt ∧ σ1 (h0 + 1) 2 = zz_lz nn.toInt.toNat (σ (h0 + 1) 0).toInt (σ (h0 + 1) 1).toInt (σ (h0 + 1) 4).toInt (σ (h0 + 1) 2) ∧ zz_PX 1 σ1 (h0 + 1) = zy_lf K.1 (σ (h0 + 1) 1).toInt (σ (h0 + 1) 6).toInt (zz_PX 0 σ (h0 + 1)) nn.toInt.toNat (σ (h0 + 1) 0).toInt (σ (h0 + 1) 4).toInt (σ (h0 + 1) 2) (zz_DX σ (h0 + 1)) (zz_PX 1 σ (h0 + 1)) ∧ zz_DX σ1 (h0 + 1) = zz_ld nn.toInt.toNat (σ (h0 + 1) 0).toInt (σ (h0 + 1) 1).toInt (σ (h0 + 1) 4).toInt (σ (h0 + 1) 2) (zz_DX σ (h0 + 1)))))) (zz_B E) (zz_A E)) args s 0 0 (zz_A E)) (F0 m 39 ls []) := by
        intro n
        induction n with
        | zero => intro ii hv dv zv σa H locs ls hm; exact absurd hm (Nat.not_lt_zero _)
        | succ n ih39 =>
          intro ii hv dv zv σa H locs ls hm hC f39_0 f39_1 f39_2 f39_3 f39_4 f39_5 f39_6 f39_7 t0 t1 t2 t3 t4 t5 t6 hP hS hl
          have hV0 := zz_PXk (f := 0) (r := h0 + 1) hC (by intro j hj; first | (dsimp only; omega) | omega)
          refine lv_iload_n hx hb dX8_loose_39 rfl (lv_at hl 0 rfl) ?_
          refine lv_iload_n hx hb dX8_loose_40 rfl (lv_at hl 2 rfl) ?_
          refine lv_icmp_ge (tgt := 68) hx hb dX8_loose_41 (by decide) (fun c5 => ?_) (fun c5 => ?_)
          · have c5 := zz_leT c5
            refine lv_aload_n hx hb dX8_loose_68 rfl (lv_at hl 1 rfl) ?_
            refine zz_getr hx hb hts hi8 hown hK hP (g0.1) rfl 0 (by decide) (hts (.fieldLink RX8 10 "NoonLaw" "realm" "LNoonLaw$Realm;") (List.mem_cons_of_mem _ bm_16)) rfl rfl dX8_loose_69 ?_
            refine zz_geti hx hb hts hi2 hown hK hP (g0.2.1.1) rfl 4 (by decide) (hts (.fieldLink RX8 198 "NoonLaw$Realm" "dreamCount" "I") (List.mem_cons_of_mem _ bm_172)) rfl rfl t2 dX8_loose_72 ?_
            exact zz_iret hx hb hr hlocks hK hP hS dX8_loose_75 (by have hz0 : nn.toInt.toNat - ii.toInt.toNat = 0 := (by omega); rw [hz0] at f39_2 f39_3 f39_6; rw [hz0, zz_ld_0] at f39_4; exact ⟨hC, (hI.scal (hC.mono (by intro a k h; first | (dsimp only at h ⊢; omega) | omega)) (by rw [t0]; omega) (by rw [t1]; omega) (by rw [t2]; omega) (by rw [t3]; omega) (by rw [t4]; omega) (by rw [t5]; omega) f39_5), Or.inr (Or.inr ⟨by omega, by omega, f39_2, by rw [t0]; omega, by rw [t2]; exact f39_2, t6.trans f39_3, (zy_lf_0 f39_6 rfl).trans hFX.symm, f39_4⟩)⟩)
          · have c5 := zz_nleT c5
            refine lv_aload_n hx hb dX8_loose_44 rfl (lv_at hl 1 rfl) ?_
            refine zz_getr hx hb hts hi8 hown hK hP (g0.1) rfl 0 (by decide) (hts (.fieldLink RX8 10 "NoonLaw" "realm" "LNoonLaw$Realm;") (List.mem_cons_of_mem _ bm_16)) rfl rfl dX8_loose_45 ?_
            refine zz_callVv (As := []) (rest := []) ⟨hx, hb, hml, hown, hts⟩ hK hP hS (c_X2_dreamByDraws l E σa (h0 + 1) (g0.2.1) (by rw [t2]; omega) (by rw [t0]; omega) (by rw [t1]; omega)) (cwV 0 hts gX8_loose_X2_dreamByDraws rfl rfl rfl (by decide +kernel) ⟨Nat.le_of_ble_eq_true rfl, Nat.le_of_ble_eq_true rfl⟩) (g0.2.1.1) rfl rfl hl.1 rfl (Nat.le_of_ble_eq_true rfl) dX8_loose_48 ⟨Nat.zero_le _, Nat.zero_le _⟩ (fun σ6 H locs q6 hP1 hS1 => ?_)
            replace hP := hP1
            replace hS := hS1
            clear hP1 hS1
            try dsimp only at q6
            obtain ⟨w6, f6⟩ := q6
            replace hC := hC.tr (w6.mono (dS16_10 h0))
            try simp only [t0, t1, t2, t3, t4, t5, t6] at f6
            replace t0 : σ6 (h0 + 1) 0 = hv := (w6 (h0 + 1) 0 (dS16_11 h0)).trans t0
            replace t1 : σ6 (h0 + 1) 1 = σ (h0 + 1) 1 := (w6 (h0 + 1) 1 (dS16_12 h0)).trans t1
            replace t2 : σ6 (h0 + 1) 4 = σ6 (h0 + 1) 4 := rfl
            replace t3 : σ6 (h0 + 1) 6 = σ (h0 + 1) 6 := (w6 (h0 + 1) 6 (dS16_13 h0)).trans t3
            replace t4 : σ6 (h0 + 1) 9 = σ (h0 + 1) 9 := (w6 (h0 + 1) 9 (dS16_14 h0)).trans t4
            replace t5 : σ6 (h0 + 1) 11 = σ (h0 + 1) 11 := (w6 (h0 + 1) 11 (dS16_15 h0)).trans t5
            replace t6 : σ6 (h0 + 1) 2 = σ6 (h0 + 1) 2 := rfl
            have fd9 : 0 ≤ (σ6 (h0 + 1) 4).toInt ∧ (σ6 (h0 + 1) 4).toInt ≤ 9 := f6.elim (fun q => by omega) (fun q => by rw [q.2.1]; omega)
            have hid9 : zz_ID (zz_DX σ6 (h0 + 1)) := f6.elim (fun q => by rw [q.2.2.2.2.2]; exact zz_dnB f39_5 (by omega)) (fun q => by rw [q.2.2.2]; exact f39_5)
            have hK9 := hW.now (σ1 := σ6) (zz_XT.eq (fun u hu => hC _ _ (by first | (dsimp only; omega) | omega)) (fun u hu => hC _ _ (by first | (dsimp only; omega) | omega)) (fun u hu k _ => hC _ _ (by first | (dsimp only; omega) | omega))) hid9 fd9 (by rw [t1]; omega)
            have hF0 := zz_PXk (f := 1) (r := h0 + 1) w6 (by intro j hj; first | (dsimp only; omega) | omega)
            have hV9 := (zz_PXk (f := 0) (r := h0 + 1) w6 (by intro j hj; first | (dsimp only; omega) | omega)).trans hV0
            refine lv_aload_n hx hb dX8_loose_51 rfl (lv_at hl 1 rfl) ?_
            refine zz_getr hx hb hts hi8 hown hK hP (g0.1) rfl 0 (by decide) (hts (.fieldLink RX8 10 "NoonLaw" "realm" "LNoonLaw$Realm;") (List.mem_cons_of_mem _ bm_16)) rfl rfl dX8_loose_52 ?_
            refine lv_aload_n hx hb dX8_loose_55 rfl (lv_at hl 1 rfl) ?_
            refine zz_getr hx hb hts hi8 hown hK hP (g0.1) rfl 6 (by decide) (hts (.fieldLink RX8 42 "NoonLaw" "sight" "LNoonLaw$Sight;") (List.mem_cons_of_mem _ bm_31)) rfl rfl dX8_loose_56 ?_
            refine zz_callVv (As := [.ref (h0 + 61)]) (rest := []) ⟨hx, hb, hml, hown, hts⟩ hK hP hS (c_X2_goAnHour l E σ6 (h0 + 1) (h0 + 61) (g0.2.1) (g0.2.2.2.2.2.2.2.1) (by rw [t2]; omega) (by rw [t3]; exact hp) (by rw [t0]; omega) (by intro j hj; rw [(hC _ _ (by first | (dsimp only; omega) | omega))]; exact ht j hj) (by omega) (K.1, zz_DX σ6 (h0 + 1), (σ6 (h0 + 1) 4).toInt, (σ6 (h0 + 1) 1).toInt) (by exact hK9) (by rw [hF0]; exact f39_7)) (cwV 1 hts gX8_loose_X2_goAnHour rfl rfl rfl (by decide +kernel) ⟨Nat.le_of_ble_eq_true rfl, Nat.le_of_ble_eq_true rfl⟩) (g0.2.1.1) rfl rfl hl.1 rfl (Nat.le_of_ble_eq_true rfl) dX8_loose_59 ⟨Nat.zero_le _, Nat.zero_le _⟩ (fun σ7 H locs q7 hP1 hS1 => ?_)
            replace hP := hP1
            replace hS := hS1
            clear hP1 hS1
            try dsimp only at q7
            obtain ⟨w7, f7⟩ := q7
            replace hC := hC.tr (w7.mono (dS16_16 h0))
            try simp only [t0, t1, t3, t4, t5] at f7
            replace t0 : σ7 (h0 + 1) 0 = σ7 (h0 + 1) 0 := rfl
            replace t1 : σ7 (h0 + 1) 1 = σ (h0 + 1) 1 := (w7 (h0 + 1) 1 (dS16_2 h0)).trans t1
            replace t2 : σ7 (h0 + 1) 4 = σ6 (h0 + 1) 4 := (w7 (h0 + 1) 4 (dS16_3 h0)).trans t2
            replace t3 : σ7 (h0 + 1) 6 = σ (h0 + 1) 6 := (w7 (h0 + 1) 6 (dS16_4 h0)).trans t3
            replace t4 : σ7 (h0 + 1) 9 = σ (h0 + 1) 9 := (w7 (h0 + 1) 9 (dS16_5 h0)).trans t4
            replace t5 : σ7 (h0 + 1) 11 = σ (h0 + 1) 11 := (w7 (h0 + 1) 11 (dS16_6 h0)).trans t5
            replace t6 : σ7 (h0 + 1) 2 = σ6 (h0 + 1) 2 := (w7 (h0 + 1) 2 (dS16_7 h0)).trans t6
            obtain ⟨n8, e8⟩ : ∃ y : Int32, y = ii + 1 := ⟨_, rfl⟩
            have f8 : n8.toInt = (ii).toInt + (1) := by have h9 := zz_addT e8 (by omega) (by omega); omega
            refine lv_iinc (v := n8) (lv' := [(2, .int n8), (0, .ref h0), (1, .int nn)]) hx hb dX8_loose_62 hl (k := 0) rfl (by rw [e8]; rfl) (by decide) rfl (fun ls hl => ?_)
            refine lv_goto (tgt := 39) hx hb dX8_loose_65 (by decide) ?_
            exact ih39 n8 (σ7 (h0 + 1) 0) (σ6 (h0 + 1) 4) (σ6 (h0 + 1) 2) σ7 _ _ _ (by omega) hC (by first | omega | exact ht | (rw [t0]; omega) | (rw [t1]; omega) | (rw [t2]; omega) | (rw [t3]; omega) | (intro j hj; rw [(hC _ _ (by first | (dsimp only; omega) | omega))]; exact ht j hj)) (by first | omega | exact ht | (rw [t0]; omega) | (rw [t1]; omega) | (rw [t2]; omega) | (rw [t3]; omega) | (intro j hj; rw [(hC _ _ (by first | (dsimp only; omega) | omega))]; exact ht j hj)) (by have hm : nn.toInt.toNat - ii.toInt.toNat = (nn.toInt.toNat - n8.toInt.toNat) + 1 := (by omega); rw [hm, zz_lo] at f39_2; rw [f7.1]; exact f6.elim (fun q => by rw [if_pos ⟨q.1, q.2.1, q.2.2.1⟩] at f39_2; rw [q.2.2.2.1]; exact f39_2) (fun q => by rw [if_neg (by omega)] at f39_2; rw [q.2.1]; exact f39_2)) (by have hm : nn.toInt.toNat - ii.toInt.toNat = (nn.toInt.toNat - n8.toInt.toNat) + 1 := (by omega); rw [hm, zz_lz] at f39_3; rw [f7.1]; exact f6.elim (fun q => by rw [if_pos ⟨q.1, q.2.1, q.2.2.1⟩] at f39_3; rw [q.2.2.2.1, q.2.2.2.2.1]; exact f39_3) (fun q => by rw [if_neg (by omega)] at f39_3; rw [q.2.1, q.2.2.1]; exact f39_3)) (by have hm : nn.toInt.toNat - ii.toInt.toNat = (nn.toInt.toNat - n8.toInt.toNat) + 1 := (by omega); rw [hm, zz_ld_s] at f39_4; rw [f7.1, zz_DXk (r := h0 + 1) w7 (by intro j hj k hk; first | (dsimp only; omega) | omega)]; exact f6.elim (fun q => by rw [if_pos ⟨q.1, q.2.1, q.2.2.1⟩] at f39_4; rw [q.2.2.2.1, q.2.2.2.2.1, q.2.2.2.2.2]; exact f39_4) (fun q => by rw [if_neg (by omega)] at f39_4; rw [q.2.1, q.2.2.1, q.2.2.2]; exact f39_4)) (by rw [zz_DXk (r := h0 + 1) w7 (by intro j hj k hk; first | (dsimp only; omega) | omega)]; exact f6.elim (fun q => by rw [q.2.2.2.2.2]; exact zz_dnB f39_5 (by omega)) (fun q => by rw [q.2.2.2]; exact f39_5)) (by rw [zz_DXk (r := h0 + 1) w7 (by intro j hj k hk; first | (dsimp only; omega) | omega), f7.2, hF0, hV9]; exact f6.elim (fun q => zy_lf_y f39_6 (by omega) f7.1 ⟨q.1, q.2.1, q.2.2.1⟩ q.2.2.2.1 q.2.2.2.2.1 q.2.2.2.2.2) (fun q => zy_lf_n f39_6 (by omega) f7.1 (by omega) (congrArg Int32.toInt q.2.1) q.2.2.1 q.2.2.2)) (by rw [f7.2, hF0]; exact zy_FB.ag f39_7) t0 t1 t2 t3 t4 t5 t6 hP hS (lv_sub hl [0, 1, 2] rfl)
      exact J39 _ 0 (σ (h0 + 1) 0) (σ (h0 + 1) 4) (σ (h0 + 1) 2) σ _ _ _ (Nat.lt_succ_self _) hC (by first | omega | exact ht | (rw [t0]; omega) | (rw [t1]; omega) | (rw [t2]; omega) | (rw [t3]; omega) | (intro j hj; rw [(hC _ _ (by first | (dsimp only; omega) | omega))]; exact ht j hj)) (by first | omega | exact ht | (rw [t0]; omega) | (rw [t1]; omega) | (rw [t2]; omega) | (rw [t3]; omega) | (intro j hj; rw [(hC _ _ (by first | (dsimp only; omega) | omega))]; exact ht j hj)) (by rfl) (by rfl) (by rw [zz_n0]) (by exact hid) (by rw [zz_n0]; exact hFX) (by exact hFB) t0 t1 t2 t3 t4 t5 t6 hP hS (lv_sub hl [0, 1, 2] rfl)
    · have c4 := zz_nleT c4
      refine lv_aload_n hx hb dX8_loose_31 rfl (lv_at hl 0 rfl) ?_
      refine lv_iconst (v := 3) hx hb dX8_loose_32 (by decide) ?_
      refine zz_callVi (As := [.int 3]) (rest := []) ⟨hx, hb, hml, hown, hts⟩ hK hP hS (c_X8_refuse l E σ h0 3 g0 (by omega)) (cwV 1 hts gX8_loose_X8_refuse rfl rfl rfl (by decide +kernel) ⟨Nat.le_of_ble_eq_true rfl, Nat.le_of_ble_eq_true rfl⟩) (g0.1) rfl rfl hl.1 rfl (Nat.le_of_ble_eq_true rfl) dX8_loose_33 ⟨Nat.zero_le _, Nat.zero_le _⟩ (fun r9 σ9 H locs q9 hP1 hS1 => ?_)
      replace hP := hP1
      replace hS := hS1
      clear hP1 hS1
      try dsimp only at q9
      obtain ⟨w9, f9⟩ := q9
      replace hC := hC.tr (w9.mono (dS16_17 h0))
      replace t0 : σ9 (h0 + 1) 0 = σ (h0 + 1) 0 := (w9 (h0 + 1) 0 (dS16_9 h0)).trans t0
      replace t1 : σ9 (h0 + 1) 1 = σ (h0 + 1) 1 := (w9 (h0 + 1) 1 (dS16_9 h0)).trans t1
      replace t2 : σ9 (h0 + 1) 4 = σ (h0 + 1) 4 := (w9 (h0 + 1) 4 (dS16_9 h0)).trans t2
      replace t3 : σ9 (h0 + 1) 6 = σ (h0 + 1) 6 := (w9 (h0 + 1) 6 (dS16_9 h0)).trans t3
      replace t4 : σ9 (h0 + 1) 9 = σ (h0 + 1) 9 := (w9 (h0 + 1) 9 (dS16_9 h0)).trans t4
      replace t5 : σ9 (h0 + 1) 11 = σ (h0 + 1) 11 := (w9 (h0 + 1) 11 (dS16_9 h0)).trans t5
      replace t6 : σ9 (h0 + 1) 2 = σ (h0 + 1) 2 := (w9 (h0 + 1) 2 (dS16_9 h0)).trans t6
      have hDq : zz_DX σ9 (h0 + 1) = zz_DX σ (h0 + 1) := by rw [zz_DXk (r := h0 + 1) w9 (by intro j hj k hk; first | (dsimp only; omega) | omega)]
      exact zz_iret hx hb hr hlocks hK hP hS dX8_loose_36 (by exact ⟨hC, (hI.scal (hC.mono (by intro a k h; first | (dsimp only at h ⊢; omega) | omega)) (by rw [t0]; omega) (by rw [t1]; omega) (by rw [t2]; omega) (by rw [t3]; omega) (by rw [t4]; omega) (by rw [t5]; omega) (by rw [hDq]; exact hid)), Or.inr (Or.inl ⟨by omega, by omega, by omega, t0, t6, t2, zz_PXk (f := 1) (r := h0 + 1) w9 (by intro j hj; first | (dsimp only; omega) | omega), hDq⟩)⟩)
  · have c2 := zz_eqT c2
    refine lv_aload_n hx hb dX8_loose_10 rfl (lv_at hl 0 rfl) ?_
    refine lv_iconst (v := 1) hx hb dX8_loose_11 (by decide) ?_
    refine zz_callVi (As := [.int 1]) (rest := []) ⟨hx, hb, hml, hown, hts⟩ hK hP hS (c_X8_refuse l E σ h0 1 g0 (by omega)) (cwV 1 hts gX8_loose_X8_refuse rfl rfl rfl (by decide +kernel) ⟨Nat.le_of_ble_eq_true rfl, Nat.le_of_ble_eq_true rfl⟩) (g0.1) rfl rfl hl.1 rfl (Nat.le_of_ble_eq_true rfl) dX8_loose_12 ⟨Nat.zero_le _, Nat.zero_le _⟩ (fun r10 σ10 H locs q10 hP1 hS1 => ?_)
    replace hP := hP1
    replace hS := hS1
    clear hP1 hS1
    try dsimp only at q10
    obtain ⟨w10, f10⟩ := q10
    replace hC := hC.tr (w10.mono (dS16_17 h0))
    replace t0 : σ10 (h0 + 1) 0 = σ (h0 + 1) 0 := (w10 (h0 + 1) 0 (dS16_9 h0)).trans t0
    replace t1 : σ10 (h0 + 1) 1 = σ (h0 + 1) 1 := (w10 (h0 + 1) 1 (dS16_9 h0)).trans t1
    replace t2 : σ10 (h0 + 1) 4 = σ (h0 + 1) 4 := (w10 (h0 + 1) 4 (dS16_9 h0)).trans t2
    replace t3 : σ10 (h0 + 1) 6 = σ (h0 + 1) 6 := (w10 (h0 + 1) 6 (dS16_9 h0)).trans t3
    replace t4 : σ10 (h0 + 1) 9 = σ (h0 + 1) 9 := (w10 (h0 + 1) 9 (dS16_9 h0)).trans t4
    replace t5 : σ10 (h0 + 1) 11 = σ (h0 + 1) 11 := (w10 (h0 + 1) 11 (dS16_9 h0)).trans t5
    replace t6 : σ10 (h0 + 1) 2 = σ (h0 + 1) 2 := (w10 (h0 + 1) 2 (dS16_9 h0)).trans t6
    have hDq : zz_DX σ10 (h0 + 1) = zz_DX σ (h0 + 1) := by rw [zz_DXk (r := h0 + 1) w10 (by intro j hj k hk; first | (dsimp only; omega) | omega)]
    exact zz_iret hx hb hr hlocks hK hP hS dX8_loose_15 (by exact ⟨hC, (hI.scal (hC.mono (by intro a k h; first | (dsimp only at h ⊢; omega) | omega)) (by rw [t0]; omega) (by rw [t1]; omega) (by rw [t2]; omega) (by rw [t3]; omega) (by rw [t4]; omega) (by rw [t5]; omega) (by rw [hDq]; exact hid)), Or.inl ⟨by omega, by omega, t0, t6, t2, zz_PXk (f := 1) (r := h0 + 1) w10 (by intro j hj; first | (dsimp only; omega) | omega), hDq⟩⟩)
theorem gX8_feed_X8_within : GoodIn wzX8_feed (va_wsS RX8 64 yX8_within wzX8_within) := wz_co bm_112 (wz_co bm_113 (wz_co bm_2 (wz_in bm_114)))
theorem gX8_feed_X8_refuse : GoodIn wzX8_feed (wsV RX8 68 RX8 yX8_refuse wzX8_refuse) := wz_co bm_118 (wz_co bm_119 (wz_co bm_120 (wz_co bm_2 (wz_in bm_121))))
theorem dS16_18 (x0 : Nat) : (x0 + 1) = x0 + 24 ∨ (x0 + 1) = x0 + 27 ∨ (x0 + 58 ≤ (x0 + 1) ∧ (x0 + 1) ≤ x0 + 67) ∨ ((x0 + 1) = x0 + 1 ∧ (9) = 9) ∨ (x0 + 1) = x0 + 5 := by omega
theorem dS16_19 (x0 : Nat) : ∀ a k : Nat, (a = (x0) + 65) → (a = x0 + 24 ∨ a = x0 + 27 ∨ (x0 + 58 ≤ a ∧ a ≤ x0 + 67) ∨ (a = x0 + 1 ∧ k = 9) ∨ a = x0 + 5) := by intro a k h; omega
set_option maxHeartbeats 4000000 in
set_option maxRecDepth 100000 in
theorem c_X8_feed (l : Launch) (E : zz_E) (σ : zz_S) (h0 : Nat) (word : Int64) (nn : Int32) (g0 : zz_L E h0) (hI : zz_IX σ h0) : Met l yX8_feed wzX8_feed ({ frames := 1, cells := 0, slots := 0, locals := 22 }) (va_Pc [.ref h0, .long word, .int nn] (zz_B E σ)) (va_Qi (fun r σ1 => zz_ch (fun a k => a = h0 + 24 ∨ a = h0 + 27 ∨ (h0 + 58 ≤ a ∧ a ≤ h0 + 67) ∨ (a = h0 + 1 ∧ k = 9) ∨ a = h0 + 5) σ σ1 ∧ (zz_IX σ1 h0 ∧ ((((nn.toInt < 1 ∨ 8 < nn.toInt) ∧ r.toInt = -1000000001 ∧ (σ1 (h0 + 1) 9).toInt = (σ (h0 + 1) 9).toInt) ∨ ((1 ≤ nn.toInt ∧ nn.toInt ≤ 8) ∧ 60 < (σ (h0 + 1) 9).toInt + nn.toInt ∧ r.toInt = -1000000004 ∧ (σ1 (h0 + 1) 9).toInt = (σ (h0 + 1) 9).toInt) ∨ ((1 ≤ nn.toInt ∧ nn.toInt ≤ 8) ∧ (σ (h0 + 1) 9).toInt + nn.toInt ≤ 60 ∧ r.toInt = (σ (h0 + 1) 9).toInt + nn.toInt ∧ (σ1 (h0 + 1) 9).toInt = (σ (h0 + 1) 9).toInt + nn.toInt)) ∧ (r.toInt < 0 → zz_Tp σ1 (h0 + 1 + 4) (σ1 (h0 + 1) 9).toInt = zz_Tp σ (h0 + 1 + 4) (σ (h0 + 1) 9).toInt) ∧ (0 ≤ r.toInt → zz_Tp σ1 (h0 + 1 + 4) (σ1 (h0 + 1) 9).toInt = zz_fd (zz_Tp σ (h0 + 1 + 4) (σ (h0 + 1) 9).toInt) (σ (h0 + 1) 9).toInt word nn.toInt)))) (zz_B E) (zz_A E)) 0 0 (zz_A E) := by
  refine zz_met (cc := cX8_feed) (maxL := 5) (ret := (some .int)) (by decide) rfl (Nat.le_of_ble_eq_true rfl) ?_
  intro p e s m args below meth c ls hx hb hr hts hown hlocks hml hK hP hS hl
  have hl : lv_has ls 5 [(0, .ref h0), (1, .long word), (3, .int nn)] := hl
  have hown : s.vm.findClass RX8 = some m.cls := hown
  have hi2 : ∀ w ∈ wsX20, w ∈ wzX8_feed := fun w h => List.mem_cons_of_mem _ (hbw2 w h)
  have hi8 : ∀ w ∈ wsX80, w ∈ wzX8_feed := fun w h => List.mem_cons_of_mem _ (hbw8 w h)
  have k_0 : (0 : Int32).toInt = 0 := by decide +kernel
  have k_1 : (1 : Int32).toInt = 1 := by decide +kernel
  have k_4 : (4 : Int32).toInt = 4 := by decide +kernel
  have k_8 : (8 : Int32).toInt = 8 := by decide +kernel
  have k_60 : (60 : Int32).toInt = 60 := by decide +kernel
  replace t0 : σ (h0 + 1) 0 = σ (h0 + 1) 0 := rfl
  replace t1 : σ (h0 + 1) 1 = σ (h0 + 1) 1 := rfl
  replace t2 : σ (h0 + 1) 4 = σ (h0 + 1) 4 := rfl
  replace t3 : σ (h0 + 1) 6 = σ (h0 + 1) 6 := rfl
  replace t4 : σ (h0 + 1) 9 = σ (h0 + 1) 9 := rfl
  replace t5 : σ (h0 + 1) 11 = σ (h0 + 1) 11 := rfl
  replace t6 : σ (h0 + 1) 2 = σ (h0 + 1) 2 := rfl
  have hC : zz_ch (fun a k => a = h0 + 24 ∨ a = h0 + 27 ∨ (h0 + 58 ≤ a ∧ a ≤ h0 + 67) ∨ (a = h0 + 1 ∧ k = 9) ∨ a = h0 + 5) σ σ := zz_ch.rf σ
  obtain ⟨⟨hh, hsl, hd, hp, htc, hwc, ht, hft, hst, hid⟩, hkI, hsh, hspk⟩ := id hI
  refine lv_iload_n hx hb dX8_feed_0 rfl (lv_at hl 2 rfl) ?_
  refine lv_iconst (v := 1) hx hb dX8_feed_1 (by decide) ?_
  refine lv_bipush (v := 8) hx hb dX8_feed_2 (by decide) ?_
  refine zz_callSp (As := [.int nn, .int 1, .int 8]) (rest := []) ⟨hx, hb, hml, hown, hts⟩ hK hP hS (c_X8_within l E σ nn 1 8) (va_cwS 3 hts gX8_feed_X8_within rfl rfl rfl (by decide +kernel) ⟨Nat.le_of_ble_eq_true rfl, Nat.le_of_ble_eq_true rfl⟩) rfl hl.1 rfl (Nat.le_of_ble_eq_true rfl) dX8_feed_4 ⟨Nat.zero_le _, Nat.zero_le _⟩ (fun r1 H locs f1 hP1 hS1 => ?_)
  replace hP := hP1
  replace hS := hS1
  clear hP1 hS1
  refine lv_if_ne (tgt := 16) hx hb dX8_feed_7 (by decide) (fun c2 => ?_) (fun c2 => ?_)
  · have c2 := zz_neT c2
    refine lv_iload_n hx hb dX8_feed_16 rfl (lv_at hl 2 rfl) ?_
    refine lv_bipush (v := 60) hx hb dX8_feed_17 (by decide) ?_
    refine lv_aload_n hx hb dX8_feed_19 rfl (lv_at hl 0 rfl) ?_
    refine zz_getr hx hb hts hi8 hown hK hP (g0.1) rfl 0 (by decide) (hts (.fieldLink RX8 10 "NoonLaw" "realm" "LNoonLaw$Realm;") (List.mem_cons_of_mem _ bm_16)) rfl rfl dX8_feed_20 ?_
    refine zz_geti hx hb hts hi2 hown hK hP (g0.2.1.1) rfl 9 (by decide) (hts (.fieldLink RX8 150 "NoonLaw$Realm" "tapeCount" "I") (List.mem_cons_of_mem _ bm_428)) rfl rfl t4 dX8_feed_23 ?_
    refine lv_isub hx hb dX8_feed_26 ?_
    refine lv_topi (fun n3 e3 => ?_)
    have f3 : n3.toInt = (60 : Int32).toInt - (σ (h0 + 1) 9).toInt := zz_subT e3 (by omega) (by omega)
    refine lv_icmp_le (tgt := 36) hx hb dX8_feed_27 (by decide) (fun c4 => ?_) (fun c4 => ?_)
    · have c4 := zz_leT c4
      refine lv_iconst (v := 0) hx hb dX8_feed_36 (by decide) ?_
      refine lv_istore (lv' := [(4, .int 0), (0, .ref h0), (1, .long word), (3, .int nn)]) hx hb dX8_feed_37 hl (by decide) rfl (fun ls hl => ?_)
      have J39 : ∀ (n : Nat) (ii : Int32) (tv : Int32) (σa : zz_S) (H : Heap) (locs : List Loc) (ls : Array Slot), ((8 - ii.toInt).toNat) < n → (zz_ch (fun a k => a = h0 + 24 ∨ a = h0 + 27 ∨ (h0 + 58 ≤ a ∧ a ≤ h0 + 67) ∨ (a = h0 + 1 ∧ k = 9) ∨ a = h0 + 5) σ σa) → (0 ≤ ii.toInt ∧ ii.toInt ≤ nn.toInt) → (tv.toInt = (σ (h0 + 1) 9).toInt + ii.toInt) → (∀ j : Nat, j < 60 → fits .byte (.int (σa (h0 + 1 + 4) j)) = true) → (zz_Tp σa (h0 + 1 + 4) tv.toInt = zz_fd (zz_Tp σ (h0 + 1 + 4) (σ (h0 + 1) 9).toInt) (σ (h0 + 1) 9).toInt word ii.toInt) → (σa (h0 + 1) 0 = σ (h0 + 1) 0) → (σa (h0 + 1) 1 = σ (h0 + 1) 1) → (σa (h0 + 1) 4 = σ (h0 + 1) 4) → (σa (h0 + 1) 6 = σ (h0 + 1) 6) → (σa (h0 + 1) 9 = tv) → (σa (h0 + 1) 11 = σ (h0 + 1) 11) → (σa (h0 + 1) 2 = σ (h0 + 1) 2) → zz_P E σa H → va_S (zz_A E) s.heap H locs → lv_has ls 5 [(4, .int ii), (0, .ref h0), (1, .long word), (3, .int nn)] → W p l e (headSpec wzX8_feed ({ frames := 1, cells := 0, slots := 0, locals := 22 })).room s m args below meth c H locs 0 0 (MQ below (va_Qi (fun r σ1 => zz_ch (fun a k => a = h0 + 24 ∨ a = h0 + 27 ∨ (h0 + 58 ≤ a ∧ a ≤ h0 + 67) ∨ (a = h0 + 1 ∧ k = 9) ∨ a = h0 + 5) σ σ1 ∧ (zz_IX σ1 h0 ∧ ((((nn.toInt < 1 ∨ 8 < nn.toInt) ∧ r.toInt = -1000000001 ∧ (σ1 (h0 + 1) 9).toInt = (σ (h0 + 1) 9).toInt) ∨ ((1 ≤ nn.toInt ∧ nn.toInt ≤ 8) ∧ 60 < (σ (h0 + 1) 9).toInt + nn.toInt ∧ r.toInt = -1000000004 ∧ (σ1 (h0 + 1) 9).toInt = (σ (h0 + 1) 9).toInt) ∨ ((1 ≤ nn.toInt ∧ nn.toInt ≤ 8) ∧ (σ (h0 + 1) 9).toInt + nn.toInt ≤ 60 ∧ r.toInt = (σ (h0 + 1) 9).toInt + nn.toInt ∧ (σ1 (h0 + 1) 9).toInt = (σ (h0 + 1) 9).toInt + nn.toInt)) ∧ (r.toInt < 0 → zz_Tp σ1 (h0 + 1 + 4) (σ1 (h0 + 1) 9).toInt = zz_Tp σ (h0 + 1 + 4) (σ (h0 + 1) 9).toInt) ∧ (0 ≤ r.toInt → zz_Tp σ1 (h0 + 1 + 4) (σ1 (h0 + 1) 9).toInt = zz_fd (zz_Tp σ (h0 + 1 + 4) (σ (h0 + 1) 9).toInt) (σ (h0 + 1) 9).toInt word nn.toInt)))) (zz_B E) (zz_A E)) args s 0 0 (zz_A E)) (F0 m 39 ls []) := by
        intro n
        induction n with
        | zero => intro ii tv σa H locs ls hm; exact absurd hm (Nat.not_lt_zero _)
        | succ n ih39 =>
          intro ii tv σa H locs ls hm hC f39_0 f39_1 f39_2 f39_3 t0 t1 t2 t3 t4 t5 t6 hP hS hl
          refine lv_iload hx hb dX8_feed_39 (lv_at hl 0 rfl) ?_
          refine lv_iload_n hx hb dX8_feed_41 rfl (lv_at hl 3 rfl) ?_
          refine lv_icmp_ge (tgt := 88) hx hb dX8_feed_42 (by decide) (fun c5 => ?_) (fun c5 => ?_)
          · have c5 := zz_leT c5
            refine lv_aload_n hx hb dX8_feed_88 rfl (lv_at hl 1 rfl) ?_
            refine zz_getr hx hb hts hi8 hown hK hP (g0.1) rfl 0 (by decide) (hts (.fieldLink RX8 10 "NoonLaw" "realm" "LNoonLaw$Realm;") (List.mem_cons_of_mem _ bm_16)) rfl rfl dX8_feed_89 ?_
            refine zz_geti hx hb hts hi2 hown hK hP (g0.2.1.1) rfl 9 (by decide) (hts (.fieldLink RX8 150 "NoonLaw$Realm" "tapeCount" "I") (List.mem_cons_of_mem _ bm_428)) rfl rfl t4 dX8_feed_92 ?_
            exact zz_iret hx hb hr hlocks hK hP hS dX8_feed_95 (by exact ⟨hC, ⟨⟨by rw [t0]; exact hh, by rw [t1]; exact hsl, by rw [t2]; exact hd, by rw [t3]; exact hp, by rw [t4]; omega, by rw [t5]; exact hwc, (fun j hj => by rw [(hC _ _ (by first | (dsimp only; omega) | omega))]; exact ht j hj), f39_2, (fun j hj => by rw [(hC _ _ (by first | (dsimp only; omega) | omega))]; exact hst j hj), (by rw [zz_DXk (r := (h0 + 1)) hC (by intro j hj k hk; first | (dsimp only; omega) | omega)]; exact hid)⟩, (hkI.keep (fun k => hC _ _ (by first | (dsimp only; omega) | omega)) (fun k => hC _ _ (by first | (dsimp only; omega) | omega)) (fun j hj k => hC _ _ (by first | (dsimp only; omega) | omega)) (fun j hj f hf => hC _ _ (by first | (dsimp only; omega) | omega))), (fun j hj => by rw [hC _ _ (by first | (dsimp only; omega) | omega)]; exact hsh j hj), (by rw [hC _ _ (by first | (dsimp only; omega) | omega)]; exact hspk)⟩, by rw [t4]; omega, (fun q => absurd q (by rw [← t4]; omega)), (fun _ => by rw [t4, f39_3, show ii.toInt = nn.toInt from by omega])⟩)
          · have c5 := zz_nleT c5
            refine lv_aload_n hx hb dX8_feed_45 rfl (lv_at hl 1 rfl) ?_
            refine zz_getr hx hb hts hi8 hown hK hP (g0.1) rfl 0 (by decide) (hts (.fieldLink RX8 10 "NoonLaw" "realm" "LNoonLaw$Realm;") (List.mem_cons_of_mem _ bm_16)) rfl rfl dX8_feed_46 ?_
            refine zz_getr hx hb hts hi2 hown hK hP (g0.2.1.1) rfl 8 (by decide) (hts (.fieldLink RX8 153 "NoonLaw$Realm" "tape" "[B") (List.mem_cons_of_mem _ bm_429)) rfl rfl dX8_feed_49 ?_
            refine lv_aload_n hx hb dX8_feed_52 rfl (lv_at hl 1 rfl) ?_
            refine zz_getr hx hb hts hi8 hown hK hP (g0.1) rfl 0 (by decide) (hts (.fieldLink RX8 10 "NoonLaw" "realm" "LNoonLaw$Realm;") (List.mem_cons_of_mem _ bm_16)) rfl rfl dX8_feed_53 ?_
            refine zz_geti hx hb hts hi2 hown hK hP (g0.2.1.1) rfl 9 (by decide) (hts (.fieldLink RX8 150 "NoonLaw$Realm" "tapeCount" "I") (List.mem_cons_of_mem _ bm_428)) rfl rfl t4 dX8_feed_56 ?_
            refine lv_lload_n hx hb dX8_feed_59 rfl (lv_at hl 2 rfl) ?_
            refine lv_bipush (v := 8) hx hb dX8_feed_60 (by decide) ?_
            refine lv_iload hx hb dX8_feed_62 (lv_at hl 0 rfl) ?_
            refine lv_imul hx hb dX8_feed_64 ?_
            refine lv_topi (fun n6 e6 => ?_)
            have f6 : n6.toInt = 8 * (ii).toInt := zz_mulL 8 e6 (by decide) (by omega) (by omega)
            refine lv_lushr hx hb dX8_feed_65 rfl ?_
            refine lv_topl (fun n7 e7 => ?_)
            refine lv_l2i hx hb dX8_feed_66 rfl ?_
            refine lv_topi (fun n8 e8 => ?_)
            refine lv_i2b hx hb dX8_feed_67 rfl ?_
            refine lv_topi (fun n9 e9 => ?_)
            skip
            refine zz_bast hx hb hK hP hS (g0.2.1.2.2.2.2.1) (by omega) (by omega) dX8_feed_68 (fun j10 σ10 H locs q10 r10 w10 hP1 hS1 => ?_)
            replace hP := hP1
            replace hS := hS1
            clear hP1 hS1
            replace hC := hC.u w10 (by first | (dsimp only; omega) | omega | (dsimp only; done))
            replace t0 : σ10 (h0 + 1) 0 = σ (h0 + 1) 0 := (zz_w (b := (h0 + 1)) (j := 0) w10 (fun q9 => zz_na (a := h0) (i := 1) (j := 5) (by decide) q9.1)).trans t0
            replace t1 : σ10 (h0 + 1) 1 = σ (h0 + 1) 1 := (zz_w (b := (h0 + 1)) (j := 1) w10 (fun q9 => zz_na (a := h0) (i := 1) (j := 5) (by decide) q9.1)).trans t1
            replace t2 : σ10 (h0 + 1) 4 = σ (h0 + 1) 4 := (zz_w (b := (h0 + 1)) (j := 4) w10 (fun q9 => zz_na (a := h0) (i := 1) (j := 5) (by decide) q9.1)).trans t2
            replace t3 : σ10 (h0 + 1) 6 = σ (h0 + 1) 6 := (zz_w (b := (h0 + 1)) (j := 6) w10 (fun q9 => zz_na (a := h0) (i := 1) (j := 5) (by decide) q9.1)).trans t3
            replace t4 : σ10 (h0 + 1) 9 = tv := (zz_w (b := (h0 + 1)) (j := 9) w10 (fun q9 => zz_na (a := h0) (i := 1) (j := 5) (by decide) q9.1)).trans t4
            replace t5 : σ10 (h0 + 1) 11 = σ (h0 + 1) 11 := (zz_w (b := (h0 + 1)) (j := 11) w10 (fun q9 => zz_na (a := h0) (i := 1) (j := 5) (by decide) q9.1)).trans t5
            replace t6 : σ10 (h0 + 1) 2 = σ (h0 + 1) 2 := (zz_w (b := (h0 + 1)) (j := 2) w10 (fun q9 => zz_na (a := h0) (i := 1) (j := 5) (by decide) q9.1)).trans t6
            refine lv_aload_n hx hb dX8_feed_69 rfl (lv_at hl 1 rfl) ?_
            refine zz_getr hx hb hts hi8 hown hK hP (g0.1) rfl 0 (by decide) (hts (.fieldLink RX8 10 "NoonLaw" "realm" "LNoonLaw$Realm;") (List.mem_cons_of_mem _ bm_16)) rfl rfl dX8_feed_70 ?_
            refine lv_dup hx hb dX8_feed_73 rfl ?_
            refine zz_geti hx hb hts hi2 hown hK hP (g0.2.1.1) rfl 9 (by decide) (hts (.fieldLink RX8 150 "NoonLaw$Realm" "tapeCount" "I") (List.mem_cons_of_mem _ bm_428)) rfl rfl t4 dX8_feed_74 ?_
            refine lv_iconst (v := 1) hx hb dX8_feed_77 (by decide) ?_
            refine lv_iadd hx hb dX8_feed_78 ?_
            refine lv_topi (fun n11 e11 => ?_)
            have f11 : n11.toInt = (tv).toInt + (1 : Int32).toInt := zz_addT e11 (by omega) (by omega)
            refine zz_puti (v := n11) (ty := .int) hx hb hts hi2 tyX2 tyX2_ok nmX2 hown hK hP hS (g0.2.1.1) rfl 9 (by decide) (hts (.fieldLink RX8 150 "NoonLaw$Realm" "tapeCount" "I") (List.mem_cons_of_mem _ bm_428)) rfl rfl (by decide +kernel) rfl rfl rfl dX8_feed_79 (fun σ12 H locs w12 hP1 hS1 => ?_)
            replace hP := hP1
            replace hS := hS1
            clear hP1 hS1
            replace hC := hC.u w12 (dS16_18 h0)
            replace t0 : σ12 (h0 + 1) 0 = σ (h0 + 1) 0 := (zz_w (b := (h0 + 1)) (j := 0) w12 (fun q9 => absurd q9.2 (by decide))).trans t0
            replace t1 : σ12 (h0 + 1) 1 = σ (h0 + 1) 1 := (zz_w (b := (h0 + 1)) (j := 1) w12 (fun q9 => absurd q9.2 (by decide))).trans t1
            replace t2 : σ12 (h0 + 1) 4 = σ (h0 + 1) 4 := (zz_w (b := (h0 + 1)) (j := 4) w12 (fun q9 => absurd q9.2 (by decide))).trans t2
            replace t3 : σ12 (h0 + 1) 6 = σ (h0 + 1) 6 := (zz_w (b := (h0 + 1)) (j := 6) w12 (fun q9 => absurd q9.2 (by decide))).trans t3
            replace t4 : σ12 (h0 + 1) 9 = n11 := zz_w1 w12
            replace t5 : σ12 (h0 + 1) 11 = σ (h0 + 1) 11 := (zz_w (b := (h0 + 1)) (j := 11) w12 (fun q9 => absurd q9.2 (by decide))).trans t5
            replace t6 : σ12 (h0 + 1) 2 = σ (h0 + 1) 2 := (zz_w (b := (h0 + 1)) (j := 2) w12 (fun q9 => absurd q9.2 (by decide))).trans t6
            obtain ⟨n13, e13⟩ : ∃ y : Int32, y = ii + 1 := ⟨_, rfl⟩
            have f13 : n13.toInt = (ii).toInt + (1) := by have h9 := zz_addT e13 (by omega) (by omega); omega
            refine lv_iinc (v := n13) (lv' := [(4, .int n13), (0, .ref h0), (1, .long word), (3, .int nn)]) hx hb dX8_feed_82 hl (k := 0) rfl (by rw [e13]; rfl) (by decide) rfl (fun ls hl => ?_)
            refine lv_goto (tgt := 39) hx hb dX8_feed_85 (by decide) ?_
            exact ih39 n13 n11 σ12 _ _ _ (by omega) hC (by first | omega | exact ht | (rw [t0]; omega) | (rw [t1]; omega) | (rw [t2]; omega) | (rw [t3]; omega) | (intro j hj; rw [(hC _ _ (by first | (dsimp only; omega) | omega))]; exact ht j hj)) (by first | omega | exact ht | (rw [t0]; omega) | (rw [t1]; omega) | (rw [t2]; omega) | (rw [t3]; omega) | (intro j hj; rw [(hC _ _ (by first | (dsimp only; omega) | omega))]; exact ht j hj)) (by intro j hj; rw [w12, zz_un (by omega)]; exact if hq : j = j10 then (by rw [hq, w10, zz_us]; exact zz_fb _) else (by rw [w10, zz_un (by omega)]; exact f39_2 j hj)) (by exact zz_Tp.more w10 w12 (by omega) f39_3 (by omega) (by omega) (by omega) (by omega) (by omega) ((zz_narB _).trans (zz_byX e7 e8 e9 (by omega)))) t0 t1 t2 t3 t4 t5 t6 hP hS (lv_sub hl [0, 1, 2, 3] rfl)
      exact J39 _ 0 (σ (h0 + 1) 9) σ _ _ _ (Nat.lt_succ_self _) hC (by first | omega | exact ht | (rw [t0]; omega) | (rw [t1]; omega) | (rw [t2]; omega) | (rw [t3]; omega) | (intro j hj; rw [(hC _ _ (by first | (dsimp only; omega) | omega))]; exact ht j hj)) (by first | omega | exact ht | (rw [t0]; omega) | (rw [t1]; omega) | (rw [t2]; omega) | (rw [t3]; omega) | (intro j hj; rw [(hC _ _ (by first | (dsimp only; omega) | omega))]; exact ht j hj)) (by exact hft) (by exact (zz_fd_0 (by omega)).symm) t0 t1 t2 t3 t4 t5 t6 hP hS (lv_sub hl [0, 1, 2, 3] rfl)
    · have c4 := zz_nleT c4
      refine lv_aload_n hx hb dX8_feed_30 rfl (lv_at hl 0 rfl) ?_
      refine lv_iconst (v := 4) hx hb dX8_feed_31 (by decide) ?_
      refine zz_callVi (As := [.int 4]) (rest := []) ⟨hx, hb, hml, hown, hts⟩ hK hP hS (c_X8_refuse l E σ h0 4 g0 (by omega)) (cwV 1 hts gX8_feed_X8_refuse rfl rfl rfl (by decide +kernel) ⟨Nat.le_of_ble_eq_true rfl, Nat.le_of_ble_eq_true rfl⟩) (g0.1) rfl rfl hl.1 rfl (Nat.le_of_ble_eq_true rfl) dX8_feed_32 ⟨Nat.zero_le _, Nat.zero_le _⟩ (fun r14 σ14 H locs q14 hP1 hS1 => ?_)
      replace hP := hP1
      replace hS := hS1
      clear hP1 hS1
      try dsimp only at q14
      obtain ⟨w14, f14⟩ := q14
      replace hC := hC.tr (w14.mono (dS16_19 h0))
      replace t0 : σ14 (h0 + 1) 0 = σ (h0 + 1) 0 := (w14 (h0 + 1) 0 (dS16_9 h0)).trans t0
      replace t1 : σ14 (h0 + 1) 1 = σ (h0 + 1) 1 := (w14 (h0 + 1) 1 (dS16_9 h0)).trans t1
      replace t2 : σ14 (h0 + 1) 4 = σ (h0 + 1) 4 := (w14 (h0 + 1) 4 (dS16_9 h0)).trans t2
      replace t3 : σ14 (h0 + 1) 6 = σ (h0 + 1) 6 := (w14 (h0 + 1) 6 (dS16_9 h0)).trans t3
      replace t4 : σ14 (h0 + 1) 9 = σ (h0 + 1) 9 := (w14 (h0 + 1) 9 (dS16_9 h0)).trans t4
      replace t5 : σ14 (h0 + 1) 11 = σ (h0 + 1) 11 := (w14 (h0 + 1) 11 (dS16_9 h0)).trans t5
      replace t6 : σ14 (h0 + 1) 2 = σ (h0 + 1) 2 := (w14 (h0 + 1) 2 (dS16_9 h0)).trans t6
      exact zz_iret hx hb hr hlocks hK hP hS dX8_feed_35 (by exact ⟨hC, (hI.soft (w14.mono (by intro a k h; omega))), by rw [t4]; omega, (fun _ => (zz_Tp.eq (congrArg Int32.toInt (w14 _ _ (by first | (dsimp only; omega) | omega))) htc.2 (fun k _ => w14 _ _ (by first | (dsimp only; omega) | omega)))), (fun q => absurd q (by omega))⟩)
  · have c2 := zz_eqT c2
    refine lv_aload_n hx hb dX8_feed_10 rfl (lv_at hl 0 rfl) ?_
    refine lv_iconst (v := 1) hx hb dX8_feed_11 (by decide) ?_
    refine zz_callVi (As := [.int 1]) (rest := []) ⟨hx, hb, hml, hown, hts⟩ hK hP hS (c_X8_refuse l E σ h0 1 g0 (by omega)) (cwV 1 hts gX8_feed_X8_refuse rfl rfl rfl (by decide +kernel) ⟨Nat.le_of_ble_eq_true rfl, Nat.le_of_ble_eq_true rfl⟩) (g0.1) rfl rfl hl.1 rfl (Nat.le_of_ble_eq_true rfl) dX8_feed_12 ⟨Nat.zero_le _, Nat.zero_le _⟩ (fun r15 σ15 H locs q15 hP1 hS1 => ?_)
    replace hP := hP1
    replace hS := hS1
    clear hP1 hS1
    try dsimp only at q15
    obtain ⟨w15, f15⟩ := q15
    replace hC := hC.tr (w15.mono (dS16_19 h0))
    replace t0 : σ15 (h0 + 1) 0 = σ (h0 + 1) 0 := (w15 (h0 + 1) 0 (dS16_9 h0)).trans t0
    replace t1 : σ15 (h0 + 1) 1 = σ (h0 + 1) 1 := (w15 (h0 + 1) 1 (dS16_9 h0)).trans t1
    replace t2 : σ15 (h0 + 1) 4 = σ (h0 + 1) 4 := (w15 (h0 + 1) 4 (dS16_9 h0)).trans t2
    replace t3 : σ15 (h0 + 1) 6 = σ (h0 + 1) 6 := (w15 (h0 + 1) 6 (dS16_9 h0)).trans t3
    replace t4 : σ15 (h0 + 1) 9 = σ (h0 + 1) 9 := (w15 (h0 + 1) 9 (dS16_9 h0)).trans t4
    replace t5 : σ15 (h0 + 1) 11 = σ (h0 + 1) 11 := (w15 (h0 + 1) 11 (dS16_9 h0)).trans t5
    replace t6 : σ15 (h0 + 1) 2 = σ (h0 + 1) 2 := (w15 (h0 + 1) 2 (dS16_9 h0)).trans t6
    exact zz_iret hx hb hr hlocks hK hP hS dX8_feed_15 (by exact ⟨hC, (hI.soft (w15.mono (by intro a k h; omega))), by rw [t4]; omega, (fun _ => (zz_Tp.eq (congrArg Int32.toInt (w15 _ _ (by first | (dsimp only; omega) | omega))) htc.2 (fun k _ => w15 _ _ (by first | (dsimp only; omega) | omega)))), (fun q => absurd q (by omega))⟩)
theorem gX8_voice_X8_isDream : GoodIn wzX8_voice (wsV RX8 76 RX8 yX8_isDream wzX8_isDream) := wz_co bm_168 (wz_co bm_169 (wz_co bm_170 (wz_co bm_2 (wz_in bm_171))))
theorem gX8_voice_X8_within : GoodIn wzX8_voice (va_wsS RX8 64 yX8_within wzX8_within) := wz_co bm_112 (wz_co bm_113 (wz_co bm_2 (wz_in bm_114)))
theorem gX8_voice_X8_refuse : GoodIn wzX8_voice (wsV RX8 68 RX8 yX8_refuse wzX8_refuse) := wz_co bm_118 (wz_co bm_119 (wz_co bm_120 (wz_co bm_2 (wz_in bm_121))))
theorem gX8_voice_X5_speaks : GoodIn wzX8_voice (wsV RX8 254 RX5 yX5_speaks wzX5_speaks) := wz_co bm_793 (wz_co bm_794 (wz_co bm_795 (wz_co bm_22 (wz_in bm_796))))
theorem dS16_20 (x0 : Nat) : ∀ a k : Nat, (a = (x0) + 65) → (a = x0 + 24 ∨ a = x0 + 27 ∨ (x0 + 58 ≤ a ∧ a ≤ x0 + 67) ∨ a = x0 + 56 ∨ a = x0 + 57) := by intro a k h; omega
theorem dS16_21 (x0 : Nat) : ¬ ((x0 + 56) = (x0) + 65) := by omega
theorem dS16_22 (x0 : Nat) : ∀ a k : Nat, (a = (x0 + 56) ∨ a = (x0 + 56) + 1) → (a = x0 + 24 ∨ a = x0 + 27 ∨ (x0 + 58 ≤ a ∧ a ≤ x0 + 67) ∨ a = x0 + 56 ∨ a = x0 + 57) := by intro a k h; omega
theorem dS16_23 (x0 : Nat) : ¬ ((x0 + 1) = (x0 + 56) ∨ (x0 + 1) = (x0 + 56) + 1) := by omega
set_option maxHeartbeats 4000000 in
set_option maxRecDepth 100000 in
theorem c_X8_voice (l : Launch) (E : zz_E) (σ : zz_S) (h0 : Nat) (dm : Int32) (vo : Int32) (x1 : Int32) (g0 : zz_L E h0) (hI : zz_IX σ h0) : Met l yX8_voice wzX8_voice ({ frames := 52, cells := 0, slots := 0, locals := 2750 }) (va_Pc [.ref h0, .int dm, .int vo, .int x1] (zz_B E σ)) (va_Qi (fun r σ1 => zz_ch (fun a k => a = h0 + 24 ∨ a = h0 + 27 ∨ (h0 + 58 ≤ a ∧ a ≤ h0 + 67) ∨ a = h0 + 56 ∨ a = h0 + 57) σ σ1 ∧ (zz_IX σ1 h0 ∧ ((¬ (0 ≤ dm.toInt ∧ dm.toInt < (σ (h0 + 1) 4).toInt ∧ 0 ≤ vo.toInt ∧ vo.toInt ≤ 3) ∧ r.toInt = -1000000001 ∧ zz_TV σ1 (h0 + 56 + 1) = zz_TV σ (h0 + 56 + 1) ∧ (σ1 (h0 + 56) 1).toInt = (σ (h0 + 56) 1).toInt) ∨ ((0 ≤ dm.toInt ∧ dm.toInt < (σ (h0 + 1) 4).toInt ∧ 0 ≤ vo.toInt ∧ vo.toInt ≤ 3) ∧ zz_v8 (zz_TV σ (h0 + 56 + 1)) (zz_TV σ1 (h0 + 56 + 1)) (σ1 (h0 + 56) 1).toInt r.toInt (zz_U20 (σ (h0 + 1 + 6 + 1 * dm.toInt.toNat) 0) (σ (h0 + 1 + 6 + 1 * dm.toInt.toNat) 1) dm vo (σ (h0 + 1 + 6 + 1 * dm.toInt.toNat) 0) x1 (0 : Int32).toInt))))) (zz_B E) (zz_A E)) 0 0 (zz_A E) := by
  refine zz_met (cc := cX8_voice) (maxL := 5) (ret := (some .int)) (by decide) rfl (Nat.le_of_ble_eq_true rfl) ?_
  intro p e s m args below meth c ls hx hb hr hts hown hlocks hml hK hP hS hl
  have hl : lv_has ls 5 [(0, .ref h0), (1, .int dm), (2, .int vo), (3, .int x1)] := hl
  have hown : s.vm.findClass RX8 = some m.cls := hown
  have hi2 : ∀ w ∈ wsX20, w ∈ wzX8_voice := fun w h => List.mem_cons_of_mem _ (hbw2 w h)
  have hi5 : ∀ w ∈ wsX50, w ∈ wzX8_voice := fun w h => List.mem_cons_of_mem _ (hbw5 w h)
  have hi8 : ∀ w ∈ wsX80, w ∈ wzX8_voice := fun w h => List.mem_cons_of_mem _ (hbw8 w h)
  have k_0 : (0 : Int32).toInt = 0 := by decide +kernel
  have k_1 : (1 : Int32).toInt = 1 := by decide +kernel
  have k_3 : (3 : Int32).toInt = 3 := by decide +kernel
  have k_6 : (6 : Int32).toInt = 6 := by decide +kernel
  replace t0 : σ (h0 + 1) 0 = σ (h0 + 1) 0 := rfl
  replace t1 : σ (h0 + 1) 1 = σ (h0 + 1) 1 := rfl
  replace t2 : σ (h0 + 1) 4 = σ (h0 + 1) 4 := rfl
  replace t3 : σ (h0 + 1) 6 = σ (h0 + 1) 6 := rfl
  replace t4 : σ (h0 + 1) 9 = σ (h0 + 1) 9 := rfl
  replace t5 : σ (h0 + 1) 11 = σ (h0 + 1) 11 := rfl
  replace t6 : σ (h0 + 1) 2 = σ (h0 + 1) 2 := rfl
  replace t7 : σ (h0 + 56) 1 = σ (h0 + 56) 1 := rfl
  have hC : zz_ch (fun a k => a = h0 + 24 ∨ a = h0 + 27 ∨ (h0 + 58 ≤ a ∧ a ≤ h0 + 67) ∨ a = h0 + 56 ∨ a = h0 + 57) σ σ := zz_ch.rf σ
  obtain ⟨⟨hh, hsl, hd, hp, htc, hwc, ht, hft, hst, hid⟩, hkI, hsh, hspk⟩ := id hI
  refine lv_aload_n hx hb dX8_voice_0 rfl (lv_at hl 0 rfl) ?_
  refine lv_iload_n hx hb dX8_voice_1 rfl (lv_at hl 1 rfl) ?_
  refine zz_callVp (As := [.int dm]) (rest := []) ⟨hx, hb, hml, hown, hts⟩ hK hP hS (c_X8_isDream l E σ h0 dm g0 (by exact hd)) (cwV 1 hts gX8_voice_X8_isDream rfl rfl rfl (by decide +kernel) ⟨Nat.le_of_ble_eq_true rfl, Nat.le_of_ble_eq_true rfl⟩) (g0.1) rfl rfl hl.1 rfl (Nat.le_of_ble_eq_true rfl) dX8_voice_2 ⟨Nat.zero_le _, Nat.zero_le _⟩ (fun r1 H locs f1 hP1 hS1 => ?_)
  replace hP := hP1
  replace hS := hS1
  clear hP1 hS1
  refine lv_if_eq (tgt := 17) hx hb dX8_voice_5 (by decide) (fun c2 => ?_) (fun c2 => ?_)
  · have c2 := zz_eqT c2
    refine lv_aload_n hx hb dX8_voice_17 rfl (lv_at hl 0 rfl) ?_
    refine lv_iconst (v := 1) hx hb dX8_voice_18 (by decide) ?_
    refine zz_callVi (As := [.int 1]) (rest := []) ⟨hx, hb, hml, hown, hts⟩ hK hP hS (c_X8_refuse l E σ h0 1 g0 (by omega)) (cwV 1 hts gX8_voice_X8_refuse rfl rfl rfl (by decide +kernel) ⟨Nat.le_of_ble_eq_true rfl, Nat.le_of_ble_eq_true rfl⟩) (g0.1) rfl rfl hl.1 rfl (Nat.le_of_ble_eq_true rfl) dX8_voice_19 ⟨Nat.zero_le _, Nat.zero_le _⟩ (fun r3 σ3 H locs q3 hP1 hS1 => ?_)
    replace hP := hP1
    replace hS := hS1
    clear hP1 hS1
    try dsimp only at q3
    obtain ⟨w3, f3⟩ := q3
    replace hC := hC.tr (w3.mono (dS16_20 h0))
    replace t0 : σ3 (h0 + 1) 0 = σ (h0 + 1) 0 := (w3 (h0 + 1) 0 (dS16_9 h0)).trans t0
    replace t1 : σ3 (h0 + 1) 1 = σ (h0 + 1) 1 := (w3 (h0 + 1) 1 (dS16_9 h0)).trans t1
    replace t2 : σ3 (h0 + 1) 4 = σ (h0 + 1) 4 := (w3 (h0 + 1) 4 (dS16_9 h0)).trans t2
    replace t3 : σ3 (h0 + 1) 6 = σ (h0 + 1) 6 := (w3 (h0 + 1) 6 (dS16_9 h0)).trans t3
    replace t4 : σ3 (h0 + 1) 9 = σ (h0 + 1) 9 := (w3 (h0 + 1) 9 (dS16_9 h0)).trans t4
    replace t5 : σ3 (h0 + 1) 11 = σ (h0 + 1) 11 := (w3 (h0 + 1) 11 (dS16_9 h0)).trans t5
    replace t6 : σ3 (h0 + 1) 2 = σ (h0 + 1) 2 := (w3 (h0 + 1) 2 (dS16_9 h0)).trans t6
    replace t7 : σ3 (h0 + 56) 1 = σ (h0 + 56) 1 := (w3 (h0 + 56) 1 (dS16_21 h0)).trans t7
    exact zz_iret hx hb hr hlocks hK hP hS dX8_voice_22 (by exact ⟨hC, ⟨(hI.1.keep (fun k => hC _ _ (by first | (dsimp only; omega) | omega)) (fun k => hC _ _ (by first | (dsimp only; omega) | omega)) (fun j hj k => hC _ _ (by first | (dsimp only; omega) | omega)) (fun j hj f hf => hC _ _ (by first | (dsimp only; omega) | omega))), (hkI.keep (fun k => hC _ _ (by first | (dsimp only; omega) | omega)) (fun k => hC _ _ (by first | (dsimp only; omega) | omega)) (fun j hj k => hC _ _ (by first | (dsimp only; omega) | omega)) (fun j hj f hf => hC _ _ (by first | (dsimp only; omega) | omega))), (fun j hj => by rw [hC _ _ (by first | (dsimp only; omega) | omega)]; exact hsh j hj), by rw [t7]; omega⟩, Or.inl ⟨by omega, by omega, zz_TV.eq (fun k _ => w3 _ _ (by first | (dsimp only; omega) | omega)), by rw [t7]⟩⟩)
  · have c2 := zz_neT c2
    refine lv_iload_n hx hb dX8_voice_8 rfl (lv_at hl 2 rfl) ?_
    refine lv_iconst (v := 0) hx hb dX8_voice_9 (by decide) ?_
    refine lv_iconst (v := 3) hx hb dX8_voice_10 (by decide) ?_
    refine zz_callSp (As := [.int vo, .int 0, .int 3]) (rest := []) ⟨hx, hb, hml, hown, hts⟩ hK hP hS (c_X8_within l E σ vo 0 3) (va_cwS 3 hts gX8_voice_X8_within rfl rfl rfl (by decide +kernel) ⟨Nat.le_of_ble_eq_true rfl, Nat.le_of_ble_eq_true rfl⟩) rfl hl.1 rfl (Nat.le_of_ble_eq_true rfl) dX8_voice_11 ⟨Nat.zero_le _, Nat.zero_le _⟩ (fun r4 H locs f4 hP1 hS1 => ?_)
    replace hP := hP1
    replace hS := hS1
    clear hP1 hS1
    refine lv_if_ne (tgt := 23) hx hb dX8_voice_14 (by decide) (fun c5 => ?_) (fun c5 => ?_)
    · have c5 := zz_neT c5
      refine lv_aload_n hx hb dX8_voice_23 rfl (lv_at hl 0 rfl) ?_
      refine zz_getr hx hb hts hi8 hown hK hP (g0.1) rfl 4 (by decide) (hts (.fieldLink RX8 28 "NoonLaw" "speaker" "LNoonLaw$Speaker;") (List.mem_cons_of_mem _ bm_23)) rfl rfl dX8_voice_24 ?_
      refine lv_aload_n hx hb dX8_voice_27 rfl (lv_at hl 0 rfl) ?_
      refine zz_getr hx hb hts hi8 hown hK hP (g0.1) rfl 0 (by decide) (hts (.fieldLink RX8 10 "NoonLaw" "realm" "LNoonLaw$Realm;") (List.mem_cons_of_mem _ bm_16)) rfl rfl dX8_voice_28 ?_
      refine zz_getr hx hb hts hi2 hown hK hP (g0.2.1.1) rfl 3 (by decide) (hts (.fieldLink RX8 79 "NoonLaw$Realm" "dreams" "[LNoonLaw$Dream;") (List.mem_cons_of_mem _ bm_159)) rfl rfl dX8_voice_31 ?_
      refine lv_iload_n hx hb dX8_voice_34 rfl (lv_at hl 1 rfl) ?_
      refine zz_aald hx hb hK hP (g0.2.1.2.1) rfl (by omega) (by omega) dX8_voice_35 (fun j6 q6 r6 => ?_)
      refine lv_iload_n hx hb dX8_voice_36 rfl (lv_at hl 1 rfl) ?_
      refine lv_iload_n hx hb dX8_voice_37 rfl (lv_at hl 2 rfl) ?_
      refine lv_iload_n hx hb dX8_voice_38 rfl (lv_at hl 3 rfl) ?_
      have hj9 : dm.toInt.toNat = j6 := by omega
      refine zz_callVi (As := [.ref ((h0 + 1) + 6 + 1 * j6), .int dm, .int vo, .int x1]) (rest := []) ⟨hx, hb, hml, hown, hts⟩ hK hP hS (c_X5_speaks l E σ (h0 + 56) ((h0 + 1) + 6 + 1 * j6) dm vo x1 (g0.2.2.2.2.2.1) (g0.2.1.2.2.2.2.2.2.1 j6 r6) (by omega)) (cwV 4 hts gX8_voice_X5_speaks rfl rfl rfl (by decide +kernel) ⟨Nat.le_of_ble_eq_true rfl, Nat.le_of_ble_eq_true rfl⟩) (g0.2.2.2.2.2.1.1) rfl rfl hl.1 rfl (Nat.le_of_ble_eq_true rfl) dX8_voice_39 ⟨Nat.zero_le _, Nat.zero_le _⟩ (fun r7 σ7 H locs q7 hP1 hS1 => ?_)
      replace hP := hP1
      replace hS := hS1
      clear hP1 hS1
      try dsimp only at q7
      obtain ⟨w7, f7⟩ := q7
      replace hC := hC.tr (w7.mono (dS16_22 h0))
      replace t0 : σ7 (h0 + 1) 0 = σ (h0 + 1) 0 := (w7 (h0 + 1) 0 (dS16_23 h0)).trans t0
      replace t1 : σ7 (h0 + 1) 1 = σ (h0 + 1) 1 := (w7 (h0 + 1) 1 (dS16_23 h0)).trans t1
      replace t2 : σ7 (h0 + 1) 4 = σ (h0 + 1) 4 := (w7 (h0 + 1) 4 (dS16_23 h0)).trans t2
      replace t3 : σ7 (h0 + 1) 6 = σ (h0 + 1) 6 := (w7 (h0 + 1) 6 (dS16_23 h0)).trans t3
      replace t4 : σ7 (h0 + 1) 9 = σ (h0 + 1) 9 := (w7 (h0 + 1) 9 (dS16_23 h0)).trans t4
      replace t5 : σ7 (h0 + 1) 11 = σ (h0 + 1) 11 := (w7 (h0 + 1) 11 (dS16_23 h0)).trans t5
      replace t6 : σ7 (h0 + 1) 2 = σ (h0 + 1) 2 := (w7 (h0 + 1) 2 (dS16_23 h0)).trans t6
      replace t7 : σ7 (h0 + 56) 1 = σ7 (h0 + 56) 1 := rfl
      refine lv_istore (lv' := [(4, .int r7), (0, .ref h0), (1, .int dm), (2, .int vo), (3, .int x1)]) hx hb dX8_voice_42 hl (by decide) rfl (fun ls hl => ?_)
      refine lv_aload_n hx hb dX8_voice_44 rfl (lv_at hl 1 rfl) ?_
      refine zz_getr hx hb hts hi8 hown hK hP (g0.1) rfl 4 (by decide) (hts (.fieldLink RX8 28 "NoonLaw" "speaker" "LNoonLaw$Speaker;") (List.mem_cons_of_mem _ bm_23)) rfl rfl dX8_voice_45 ?_
      refine zz_geti hx hb hts hi5 hown hK hP (g0.2.2.2.2.2.1.1) rfl 2 (by decide) (hts (.fieldLink RX8 258 "NoonLaw$Speaker" "parted" "Z") (List.mem_cons_of_mem _ bm_792)) rfl rfl rfl dX8_voice_48 ?_
      refine lv_if_eq (tgt := 63) hx hb dX8_voice_51 (by decide) (fun c8 => ?_) (fun c8 => ?_)
      · have c8 := zz_eqT c8
        refine lv_iload hx hb dX8_voice_63 (lv_at hl 0 rfl) ?_
        have g9 := f7.2
        rw [← hj9] at g9
        exact zz_iret hx hb hr hlocks hK hP hS dX8_voice_65 (by exact ⟨hC, ⟨(hI.1.keep (fun k => hC _ _ (by first | (dsimp only; omega) | omega)) (fun k => hC _ _ (by first | (dsimp only; omega) | omega)) (fun j hj k => hC _ _ (by first | (dsimp only; omega) | omega)) (fun j hj f hf => hC _ _ (by first | (dsimp only; omega) | omega))), (hkI.keep (fun k => hC _ _ (by first | (dsimp only; omega) | omega)) (fun k => hC _ _ (by first | (dsimp only; omega) | omega)) (fun j hj k => hC _ _ (by first | (dsimp only; omega) | omega)) (fun j hj f hf => hC _ _ (by first | (dsimp only; omega) | omega))), (fun j hj => by rw [hC _ _ (by first | (dsimp only; omega) | omega)]; exact hsh j hj), by rw [t7]; omega⟩, Or.inr ⟨by omega, g9.v8a (by omega)⟩⟩)
      · have c8 := zz_neT c8
        refine lv_aload_n hx hb dX8_voice_54 rfl (lv_at hl 1 rfl) ?_
        refine lv_bipush (v := 6) hx hb dX8_voice_55 (by decide) ?_
        refine zz_callVi (As := [.int 6]) (rest := []) ⟨hx, hb, hml, hown, hts⟩ hK hP hS (c_X8_refuse l E σ7 h0 6 g0 (by omega)) (cwV 1 hts gX8_voice_X8_refuse rfl rfl rfl (by decide +kernel) ⟨Nat.le_of_ble_eq_true rfl, Nat.le_of_ble_eq_true rfl⟩) (g0.1) rfl rfl hl.1 rfl (Nat.le_of_ble_eq_true rfl) dX8_voice_57 ⟨Nat.zero_le _, Nat.zero_le _⟩ (fun r9 σ9 H locs q9 hP1 hS1 => ?_)
        replace hP := hP1
        replace hS := hS1
        clear hP1 hS1
        try dsimp only at q9
        obtain ⟨w9, f9⟩ := q9
        replace hC := hC.tr (w9.mono (dS16_20 h0))
        replace t0 : σ9 (h0 + 1) 0 = σ (h0 + 1) 0 := (w9 (h0 + 1) 0 (dS16_9 h0)).trans t0
        replace t1 : σ9 (h0 + 1) 1 = σ (h0 + 1) 1 := (w9 (h0 + 1) 1 (dS16_9 h0)).trans t1
        replace t2 : σ9 (h0 + 1) 4 = σ (h0 + 1) 4 := (w9 (h0 + 1) 4 (dS16_9 h0)).trans t2
        replace t3 : σ9 (h0 + 1) 6 = σ (h0 + 1) 6 := (w9 (h0 + 1) 6 (dS16_9 h0)).trans t3
        replace t4 : σ9 (h0 + 1) 9 = σ (h0 + 1) 9 := (w9 (h0 + 1) 9 (dS16_9 h0)).trans t4
        replace t5 : σ9 (h0 + 1) 11 = σ (h0 + 1) 11 := (w9 (h0 + 1) 11 (dS16_9 h0)).trans t5
        replace t6 : σ9 (h0 + 1) 2 = σ (h0 + 1) 2 := (w9 (h0 + 1) 2 (dS16_9 h0)).trans t6
        replace t7 : σ9 (h0 + 56) 1 = σ7 (h0 + 56) 1 := (w9 (h0 + 56) 1 (dS16_21 h0)).trans t7
        refine lv_goto (tgt := 65) hx hb dX8_voice_60 (by decide) ?_
        have g9 := f7.2
        rw [← hj9] at g9
        exact zz_iret hx hb hr hlocks hK hP hS dX8_voice_65 (by exact ⟨hC, ⟨(hI.1.keep (fun k => hC _ _ (by first | (dsimp only; omega) | omega)) (fun k => hC _ _ (by first | (dsimp only; omega) | omega)) (fun j hj k => hC _ _ (by first | (dsimp only; omega) | omega)) (fun j hj f hf => hC _ _ (by first | (dsimp only; omega) | omega))), (hkI.keep (fun k => hC _ _ (by first | (dsimp only; omega) | omega)) (fun k => hC _ _ (by first | (dsimp only; omega) | omega)) (fun j hj k => hC _ _ (by first | (dsimp only; omega) | omega)) (fun j hj f hf => hC _ _ (by first | (dsimp only; omega) | omega))), (fun j hj => by rw [hC _ _ (by first | (dsimp only; omega) | omega)]; exact hsh j hj), by rw [t7]; omega⟩, Or.inr ⟨by omega, g9.v8b (by omega) (zz_TV.eq (fun k _ => w9 _ _ (by first | (dsimp only; omega) | omega))) (congrArg Int32.toInt (w9 _ _ (by first | (dsimp only; omega) | omega))) (by omega)⟩⟩)
    · have c5 := zz_eqT c5
      refine lv_aload_n hx hb dX8_voice_17 rfl (lv_at hl 0 rfl) ?_
      refine lv_iconst (v := 1) hx hb dX8_voice_18 (by decide) ?_
      refine zz_callVi (As := [.int 1]) (rest := []) ⟨hx, hb, hml, hown, hts⟩ hK hP hS (c_X8_refuse l E σ h0 1 g0 (by omega)) (cwV 1 hts gX8_voice_X8_refuse rfl rfl rfl (by decide +kernel) ⟨Nat.le_of_ble_eq_true rfl, Nat.le_of_ble_eq_true rfl⟩) (g0.1) rfl rfl hl.1 rfl (Nat.le_of_ble_eq_true rfl) dX8_voice_19 ⟨Nat.zero_le _, Nat.zero_le _⟩ (fun r10 σ10 H locs q10 hP1 hS1 => ?_)
      replace hP := hP1
      replace hS := hS1
      clear hP1 hS1
      try dsimp only at q10
      obtain ⟨w10, f10⟩ := q10
      replace hC := hC.tr (w10.mono (dS16_20 h0))
      replace t0 : σ10 (h0 + 1) 0 = σ (h0 + 1) 0 := (w10 (h0 + 1) 0 (dS16_9 h0)).trans t0
      replace t1 : σ10 (h0 + 1) 1 = σ (h0 + 1) 1 := (w10 (h0 + 1) 1 (dS16_9 h0)).trans t1
      replace t2 : σ10 (h0 + 1) 4 = σ (h0 + 1) 4 := (w10 (h0 + 1) 4 (dS16_9 h0)).trans t2
      replace t3 : σ10 (h0 + 1) 6 = σ (h0 + 1) 6 := (w10 (h0 + 1) 6 (dS16_9 h0)).trans t3
      replace t4 : σ10 (h0 + 1) 9 = σ (h0 + 1) 9 := (w10 (h0 + 1) 9 (dS16_9 h0)).trans t4
      replace t5 : σ10 (h0 + 1) 11 = σ (h0 + 1) 11 := (w10 (h0 + 1) 11 (dS16_9 h0)).trans t5
      replace t6 : σ10 (h0 + 1) 2 = σ (h0 + 1) 2 := (w10 (h0 + 1) 2 (dS16_9 h0)).trans t6
      replace t7 : σ10 (h0 + 56) 1 = σ (h0 + 56) 1 := (w10 (h0 + 56) 1 (dS16_21 h0)).trans t7
      exact zz_iret hx hb hr hlocks hK hP hS dX8_voice_22 (by exact ⟨hC, ⟨(hI.1.keep (fun k => hC _ _ (by first | (dsimp only; omega) | omega)) (fun k => hC _ _ (by first | (dsimp only; omega) | omega)) (fun j hj k => hC _ _ (by first | (dsimp only; omega) | omega)) (fun j hj f hf => hC _ _ (by first | (dsimp only; omega) | omega))), (hkI.keep (fun k => hC _ _ (by first | (dsimp only; omega) | omega)) (fun k => hC _ _ (by first | (dsimp only; omega) | omega)) (fun j hj k => hC _ _ (by first | (dsimp only; omega) | omega)) (fun j hj f hf => hC _ _ (by first | (dsimp only; omega) | omega))), (fun j hj => by rw [hC _ _ (by first | (dsimp only; omega) | omega)]; exact hsh j hj), by rw [t7]; omega⟩, Or.inl ⟨by omega, by omega, zz_TV.eq (fun k _ => w10 _ _ (by first | (dsimp only; omega) | omega)), by rw [t7]⟩⟩)
theorem gX8_sheet_X8_isSheet : GoodIn wzX8_sheet (va_wsS RX8 243 yX8_isSheet wzX8_isSheet) := wz_co bm_765 (wz_co bm_766 (wz_co bm_2 (wz_in bm_767)))
theorem gX8_sheet_X8_refuse : GoodIn wzX8_sheet (wsV RX8 68 RX8 yX8_refuse wzX8_refuse) := wz_co bm_118 (wz_co bm_119 (wz_co bm_120 (wz_co bm_2 (wz_in bm_121))))
theorem gX8_sheet_X3_renew : GoodIn wzX8_sheet (wsV RX8 265 RX3 yX3_renew wzX3_renew) := wz_co bm_888 (wz_co bm_889 (wz_co bm_890 (wz_co bm_37 (wz_in bm_891))))
theorem dS16_24 (x0 : Nat) : ∀ a k : Nat, (a = (x0) + 65) → (a = x0 + 24 ∨ a = x0 + 27 ∨ (x0 + 58 ≤ a ∧ a ≤ x0 + 67) ∨ (x0 + 68 ≤ a ∧ a < x0 + 76)) := by intro a k h; omega
set_option maxHeartbeats 4000000 in
set_option maxRecDepth 100000 in
theorem c_X8_sheet (l : Launch) (E : zz_E) (σ : zz_S) (h0 : Nat) (sh : Int32) (bi : Int32) (nn : Int32) (g0 : zz_L E h0) (hI : zz_IX σ h0) : Met l yX8_sheet wzX8_sheet ({ frames := 2, cells := 0, slots := 0, locals := 42 }) (va_Pc [.ref h0, .int sh, .int bi, .int nn] (zz_B E σ)) (va_Qi (fun r σ1 => zz_ch (fun a k => a = h0 + 24 ∨ a = h0 + 27 ∨ (h0 + 58 ≤ a ∧ a ≤ h0 + 67) ∨ (h0 + 68 ≤ a ∧ a < h0 + 76)) σ σ1 ∧ (zz_IX σ1 h0 ∧ zz_sheet sh.toInt bi.toInt nn.toInt r.toInt ∧ (r.toInt < 0 → zz_HX 0 σ1 h0 = zz_HX 0 σ h0 ∧ zz_HX 1 σ1 h0 = zz_HX 1 σ h0 ∧ zz_CX σ1 h0 = zz_CX σ h0) ∧ (0 ≤ r.toInt → zz_HX 0 σ1 h0 = zz_wn (zz_HX 0 σ h0) sh.toInt bi.toInt ∧ zz_HX 1 σ1 h0 = zz_wn (zz_HX 1 σ h0) sh.toInt (if bi.toInt = 0 then 0 else nn.toInt) ∧ zz_CX σ1 h0 = zz_cz (zz_CX σ h0) sh.toInt))) (zz_B E) (zz_A E)) 0 0 (zz_A E) := by
  refine zz_met (cc := cX8_sheet) (maxL := 4) (ret := (some .int)) (by decide) rfl (Nat.le_of_ble_eq_true rfl) ?_
  intro p e s m args below meth c ls hx hb hr hts hown hlocks hml hK hP hS hl
  have hl : lv_has ls 4 [(0, .ref h0), (1, .int sh), (2, .int bi), (3, .int nn)] := hl
  have hown : s.vm.findClass RX8 = some m.cls := hown
  have hi8 : ∀ w ∈ wsX80, w ∈ wzX8_sheet := fun w h => List.mem_cons_of_mem _ (hbw8 w h)
  have k_0 : (0 : Int32).toInt = 0 := by decide +kernel
  have k_1 : (1 : Int32).toInt = 1 := by decide +kernel
  have k_3 : (3 : Int32).toInt = 3 := by decide +kernel
  have k_8 : (8 : Int32).toInt = 8 := by decide +kernel
  have k_16 : (16 : Int32).toInt = 16 := by decide +kernel
  have k_24 : (24 : Int32).toInt = 24 := by decide +kernel
  have k_32 : (32 : Int32).toInt = 32 := by decide +kernel
  have hC : zz_ch (fun a k => a = h0 + 24 ∨ a = h0 + 27 ∨ (h0 + 58 ≤ a ∧ a ≤ h0 + 67) ∨ (h0 + 68 ≤ a ∧ a < h0 + 76)) σ σ := zz_ch.rf σ
  obtain ⟨⟨hh, hsl, hd, hp, htc, hwc, ht, hft, hst, hid⟩, hkI, hsh, hspk⟩ := id hI
  refine lv_iload_n hx hb dX8_sheet_0 rfl (lv_at hl 1 rfl) ?_
  refine zz_callSp (As := [.int sh]) (rest := []) ⟨hx, hb, hml, hown, hts⟩ hK hP hS (c_X8_isSheet l E σ sh) (va_cwS 1 hts gX8_sheet_X8_isSheet rfl rfl rfl (by decide +kernel) ⟨Nat.le_of_ble_eq_true rfl, Nat.le_of_ble_eq_true rfl⟩) rfl hl.1 rfl (Nat.le_of_ble_eq_true rfl) dX8_sheet_1 ⟨Nat.zero_le _, Nat.zero_le _⟩ (fun r1 H locs f1 hP1 hS1 => ?_)
  replace hP := hP1
  replace hS := hS1
  clear hP1 hS1
  refine lv_if_eq (tgt := 29) hx hb dX8_sheet_4 (by decide) (fun c2 => ?_) (fun c2 => ?_)
  · have c2 := zz_eqT c2
    refine lv_aload_n hx hb dX8_sheet_29 rfl (lv_at hl 0 rfl) ?_
    refine lv_iconst (v := 1) hx hb dX8_sheet_30 (by decide) ?_
    refine zz_callVi (As := [.int 1]) (rest := []) ⟨hx, hb, hml, hown, hts⟩ hK hP hS (c_X8_refuse l E σ h0 1 g0 (by omega)) (cwV 1 hts gX8_sheet_X8_refuse rfl rfl rfl (by decide +kernel) ⟨Nat.le_of_ble_eq_true rfl, Nat.le_of_ble_eq_true rfl⟩) (g0.1) rfl rfl hl.1 rfl (Nat.le_of_ble_eq_true rfl) dX8_sheet_31 ⟨Nat.zero_le _, Nat.zero_le _⟩ (fun r3 σ3 H locs q3 hP1 hS1 => ?_)
    replace hP := hP1
    replace hS := hS1
    clear hP1 hS1
    try dsimp only at q3
    obtain ⟨w3, f3⟩ := q3
    replace hC := hC.tr (w3.mono (dS16_24 h0))
    have hC0 := w3
    exact zz_iret hx hb hr hlocks hK hP hS dX8_sheet_34 (by exact ⟨hC, (hI.soft (w3.mono (by intro a k h; omega))), (by unfold zz_sheet; omega), (fun _ => ⟨zz_HX.eq (fun j hj => hC0 _ _ (by first | (dsimp only; omega) | omega)), zz_HX.eq (fun j hj => hC0 _ _ (by first | (dsimp only; omega) | omega)), zz_CX.eq (fun j hj k hk => hC0 _ _ (by first | (dsimp only; omega) | omega))⟩), (fun q => absurd q (by omega))⟩)
  · have c2 := zz_neT c2
    refine lv_iload_n hx hb dX8_sheet_7 rfl (lv_at hl 2 rfl) ?_
    refine lv_if_eq (tgt := 35) hx hb dX8_sheet_8 (by decide) (fun c4 => ?_) (fun c4 => ?_)
    · have c4 := zz_eqT c4
      refine lv_iload_n hx hb dX8_sheet_35 rfl (lv_at hl 2 rfl) ?_
      refine lv_if_eq (tgt := 49) hx hb dX8_sheet_36 (by decide) (fun c5 => ?_) (fun c5 => ?_)
      · have c5 := zz_eqT c5
        refine lv_iload_n hx hb dX8_sheet_49 rfl (lv_at hl 2 rfl) ?_
        refine lv_if_eq (tgt := 65) hx hb dX8_sheet_50 (by decide) (fun c6 => ?_) (fun c6 => ?_)
        · have c6 := zz_eqT c6
          refine lv_aload_n hx hb dX8_sheet_65 rfl (lv_at hl 0 rfl) ?_
          refine zz_getr hx hb hts hi8 hown hK hP (g0.1) rfl 3 (by decide) (hts (.fieldLink RX8 21 "NoonLaw" "sheets" "[LNoonLaw$Sheet;") (List.mem_cons_of_mem _ bm_19)) rfl rfl dX8_sheet_66 ?_
          refine lv_iload_n hx hb dX8_sheet_69 rfl (lv_at hl 1 rfl) ?_
          refine zz_aald hx hb hK hP (g0.2.2.2.1) rfl (by omega) (by omega) dX8_sheet_70 (fun j7 q7 r7 => ?_)
          skip
          refine lv_iload_n hx hb dX8_sheet_71 rfl (lv_at hl 2 rfl) ?_
          refine lv_iload_n hx hb dX8_sheet_72 rfl (lv_at hl 2 rfl) ?_
          refine lv_if_ne (tgt := 80) hx hb dX8_sheet_73 (by decide) (fun c8 => ?_) (fun c8 => ?_)
          · have c8 := zz_neT c8
            refine lv_iload_n hx hb dX8_sheet_80 rfl (lv_at hl 3 rfl) ?_
            skip
            refine zz_callVv (As := [.int bi, .int nn]) (rest := []) ⟨hx, hb, hml, hown, hts⟩ hK hP hS (c_X3_renew l E σ (h0 + 68 + 2 * j7) bi nn (g0.2.2.2.2.1 j7 r7)) (cwV 2 hts gX8_sheet_X3_renew rfl rfl rfl (by decide +kernel) ⟨Nat.le_of_ble_eq_true rfl, Nat.le_of_ble_eq_true rfl⟩) ((g0.2.2.2.2.1 j7 r7).1) rfl rfl hl.1 rfl (Nat.le_of_ble_eq_true rfl) dX8_sheet_81 ⟨Nat.zero_le _, Nat.zero_le _⟩ (fun σ9 H locs q9 hP1 hS1 => ?_)
            replace hP := hP1
            replace hS := hS1
            clear hP1 hS1
            try dsimp only at q9
            obtain ⟨w9, f9⟩ := q9
            replace hC := hC.tr (w9.mono (by intro a k h; first | (dsimp only at h ⊢; omega) | omega | (dsimp only at h; omega) | (dsimp only; omega)))
            refine lv_iconst (v := 1) hx hb dX8_sheet_84 (by decide) ?_
            exact zz_iret hx hb hr hlocks hK hP hS dX8_sheet_85 (by exact ⟨hC, ⟨(hI.1.keep (fun k => hC _ _ (by first | (dsimp only; omega) | omega)) (fun k => hC _ _ (by first | (dsimp only; omega) | omega)) (fun j hj k => hC _ _ (by first | (dsimp only; omega) | omega)) (fun j hj f hf => hC _ _ (by first | (dsimp only; omega) | omega))), (hkI.keep (fun k => hC _ _ (by first | (dsimp only; omega) | omega)) (fun k => hC _ _ (by first | (dsimp only; omega) | omega)) (fun j hj k => hC _ _ (by first | (dsimp only; omega) | omega)) (fun j hj f hf => hC _ _ (by first | (dsimp only; omega) | omega))), (fun j hj => if hq : j = j7 then (by rw [hq, f9.2.1]; omega) else (by rw [w9 _ _ (by omega)]; exact hsh j hj)), (by rw [hC _ _ (by first | (dsimp only; omega) | omega)]; exact hspk)⟩, (by unfold zz_sheet; omega), (fun q => absurd q (by omega)), (fun _ => ⟨zz_HX.up q7 r7 (congrArg Int32.toInt f9.1) (fun j hj hn => w9 _ _ (by first | (dsimp only; omega) | omega)), zz_HX.up q7 r7 (by rw [f9.2.1, if_neg (by omega)]) (fun j hj hn => w9 _ _ (by first | (dsimp only; omega) | omega)), zz_CX.cz q7 r7 f9.2.2 (fun j hj hn k => w9 _ _ (by first | (dsimp only; omega) | omega))⟩)⟩)
          · have c8 := zz_eqT c8
            refine lv_iconst (v := 0) hx hb dX8_sheet_76 (by decide) ?_
            refine lv_goto (tgt := 81) hx hb dX8_sheet_77 (by decide) ?_
            skip
            refine zz_callVv (As := [.int bi, .int 0]) (rest := []) ⟨hx, hb, hml, hown, hts⟩ hK hP hS (c_X3_renew l E σ (h0 + 68 + 2 * j7) bi 0 (g0.2.2.2.2.1 j7 r7)) (cwV 2 hts gX8_sheet_X3_renew rfl rfl rfl (by decide +kernel) ⟨Nat.le_of_ble_eq_true rfl, Nat.le_of_ble_eq_true rfl⟩) ((g0.2.2.2.2.1 j7 r7).1) rfl rfl hl.1 rfl (Nat.le_of_ble_eq_true rfl) dX8_sheet_81 ⟨Nat.zero_le _, Nat.zero_le _⟩ (fun σ10 H locs q10 hP1 hS1 => ?_)
            replace hP := hP1
            replace hS := hS1
            clear hP1 hS1
            try dsimp only at q10
            obtain ⟨w10, f10⟩ := q10
            replace hC := hC.tr (w10.mono (by intro a k h; first | (dsimp only at h ⊢; omega) | omega | (dsimp only at h; omega) | (dsimp only; omega)))
            refine lv_iconst (v := 1) hx hb dX8_sheet_84 (by decide) ?_
            exact zz_iret hx hb hr hlocks hK hP hS dX8_sheet_85 (by exact ⟨hC, ⟨(hI.1.keep (fun k => hC _ _ (by first | (dsimp only; omega) | omega)) (fun k => hC _ _ (by first | (dsimp only; omega) | omega)) (fun j hj k => hC _ _ (by first | (dsimp only; omega) | omega)) (fun j hj f hf => hC _ _ (by first | (dsimp only; omega) | omega))), (hkI.keep (fun k => hC _ _ (by first | (dsimp only; omega) | omega)) (fun k => hC _ _ (by first | (dsimp only; omega) | omega)) (fun j hj k => hC _ _ (by first | (dsimp only; omega) | omega)) (fun j hj f hf => hC _ _ (by first | (dsimp only; omega) | omega))), (fun j hj => if hq : j = j7 then (by rw [hq, f10.2.1]; omega) else (by rw [w10 _ _ (by omega)]; exact hsh j hj)), (by rw [hC _ _ (by first | (dsimp only; omega) | omega)]; exact hspk)⟩, (by unfold zz_sheet; omega), (fun q => absurd q (by omega)), (fun _ => ⟨zz_HX.up q7 r7 (congrArg Int32.toInt f10.1) (fun j hj hn => w10 _ _ (by first | (dsimp only; omega) | omega)), zz_HX.up q7 r7 (by rw [f10.2.1, if_pos (by omega)]; exact k_0) (fun j hj hn => w10 _ _ (by first | (dsimp only; omega) | omega)), zz_CX.cz q7 r7 f10.2.2 (fun j hj hn k => w10 _ _ (by first | (dsimp only; omega) | omega))⟩)⟩)
        · have c6 := zz_neT c6
          refine lv_iload_n hx hb dX8_sheet_53 rfl (lv_at hl 3 rfl) ?_
          refine lv_bipush (v := 24) hx hb dX8_sheet_54 (by decide) ?_
          refine lv_icmp_le (tgt := 65) hx hb dX8_sheet_56 (by decide) (fun c11 => ?_) (fun c11 => ?_)
          · have c11 := zz_leT c11
            refine lv_aload_n hx hb dX8_sheet_65 rfl (lv_at hl 0 rfl) ?_
            refine zz_getr hx hb hts hi8 hown hK hP (g0.1) rfl 3 (by decide) (hts (.fieldLink RX8 21 "NoonLaw" "sheets" "[LNoonLaw$Sheet;") (List.mem_cons_of_mem _ bm_19)) rfl rfl dX8_sheet_66 ?_
            refine lv_iload_n hx hb dX8_sheet_69 rfl (lv_at hl 1 rfl) ?_
            refine zz_aald hx hb hK hP (g0.2.2.2.1) rfl (by omega) (by omega) dX8_sheet_70 (fun j12 q12 r12 => ?_)
            skip
            refine lv_iload_n hx hb dX8_sheet_71 rfl (lv_at hl 2 rfl) ?_
            refine lv_iload_n hx hb dX8_sheet_72 rfl (lv_at hl 2 rfl) ?_
            refine lv_if_ne (tgt := 80) hx hb dX8_sheet_73 (by decide) (fun c13 => ?_) (fun c13 => ?_)
            · have c13 := zz_neT c13
              refine lv_iload_n hx hb dX8_sheet_80 rfl (lv_at hl 3 rfl) ?_
              skip
              refine zz_callVv (As := [.int bi, .int nn]) (rest := []) ⟨hx, hb, hml, hown, hts⟩ hK hP hS (c_X3_renew l E σ (h0 + 68 + 2 * j12) bi nn (g0.2.2.2.2.1 j12 r12)) (cwV 2 hts gX8_sheet_X3_renew rfl rfl rfl (by decide +kernel) ⟨Nat.le_of_ble_eq_true rfl, Nat.le_of_ble_eq_true rfl⟩) ((g0.2.2.2.2.1 j12 r12).1) rfl rfl hl.1 rfl (Nat.le_of_ble_eq_true rfl) dX8_sheet_81 ⟨Nat.zero_le _, Nat.zero_le _⟩ (fun σ14 H locs q14 hP1 hS1 => ?_)
              replace hP := hP1
              replace hS := hS1
              clear hP1 hS1
              try dsimp only at q14
              obtain ⟨w14, f14⟩ := q14
              replace hC := hC.tr (w14.mono (by intro a k h; first | (dsimp only at h ⊢; omega) | omega | (dsimp only at h; omega) | (dsimp only; omega)))
              refine lv_iconst (v := 1) hx hb dX8_sheet_84 (by decide) ?_
              exact zz_iret hx hb hr hlocks hK hP hS dX8_sheet_85 (by exact ⟨hC, ⟨(hI.1.keep (fun k => hC _ _ (by first | (dsimp only; omega) | omega)) (fun k => hC _ _ (by first | (dsimp only; omega) | omega)) (fun j hj k => hC _ _ (by first | (dsimp only; omega) | omega)) (fun j hj f hf => hC _ _ (by first | (dsimp only; omega) | omega))), (hkI.keep (fun k => hC _ _ (by first | (dsimp only; omega) | omega)) (fun k => hC _ _ (by first | (dsimp only; omega) | omega)) (fun j hj k => hC _ _ (by first | (dsimp only; omega) | omega)) (fun j hj f hf => hC _ _ (by first | (dsimp only; omega) | omega))), (fun j hj => if hq : j = j12 then (by rw [hq, f14.2.1]; omega) else (by rw [w14 _ _ (by omega)]; exact hsh j hj)), (by rw [hC _ _ (by first | (dsimp only; omega) | omega)]; exact hspk)⟩, (by unfold zz_sheet; omega), (fun q => absurd q (by omega)), (fun _ => ⟨zz_HX.up q12 r12 (congrArg Int32.toInt f14.1) (fun j hj hn => w14 _ _ (by first | (dsimp only; omega) | omega)), zz_HX.up q12 r12 (by rw [f14.2.1, if_neg (by omega)]) (fun j hj hn => w14 _ _ (by first | (dsimp only; omega) | omega)), zz_CX.cz q12 r12 f14.2.2 (fun j hj hn k => w14 _ _ (by first | (dsimp only; omega) | omega))⟩)⟩)
            · have c13 := zz_eqT c13
              refine lv_iconst (v := 0) hx hb dX8_sheet_76 (by decide) ?_
              refine lv_goto (tgt := 81) hx hb dX8_sheet_77 (by decide) ?_
              skip
              refine zz_callVv (As := [.int bi, .int 0]) (rest := []) ⟨hx, hb, hml, hown, hts⟩ hK hP hS (c_X3_renew l E σ (h0 + 68 + 2 * j12) bi 0 (g0.2.2.2.2.1 j12 r12)) (cwV 2 hts gX8_sheet_X3_renew rfl rfl rfl (by decide +kernel) ⟨Nat.le_of_ble_eq_true rfl, Nat.le_of_ble_eq_true rfl⟩) ((g0.2.2.2.2.1 j12 r12).1) rfl rfl hl.1 rfl (Nat.le_of_ble_eq_true rfl) dX8_sheet_81 ⟨Nat.zero_le _, Nat.zero_le _⟩ (fun σ15 H locs q15 hP1 hS1 => ?_)
              replace hP := hP1
              replace hS := hS1
              clear hP1 hS1
              try dsimp only at q15
              obtain ⟨w15, f15⟩ := q15
              replace hC := hC.tr (w15.mono (by intro a k h; first | (dsimp only at h ⊢; omega) | omega | (dsimp only at h; omega) | (dsimp only; omega)))
              refine lv_iconst (v := 1) hx hb dX8_sheet_84 (by decide) ?_
              exact zz_iret hx hb hr hlocks hK hP hS dX8_sheet_85 (by exact ⟨hC, ⟨(hI.1.keep (fun k => hC _ _ (by first | (dsimp only; omega) | omega)) (fun k => hC _ _ (by first | (dsimp only; omega) | omega)) (fun j hj k => hC _ _ (by first | (dsimp only; omega) | omega)) (fun j hj f hf => hC _ _ (by first | (dsimp only; omega) | omega))), (hkI.keep (fun k => hC _ _ (by first | (dsimp only; omega) | omega)) (fun k => hC _ _ (by first | (dsimp only; omega) | omega)) (fun j hj k => hC _ _ (by first | (dsimp only; omega) | omega)) (fun j hj f hf => hC _ _ (by first | (dsimp only; omega) | omega))), (fun j hj => if hq : j = j12 then (by rw [hq, f15.2.1]; omega) else (by rw [w15 _ _ (by omega)]; exact hsh j hj)), (by rw [hC _ _ (by first | (dsimp only; omega) | omega)]; exact hspk)⟩, (by unfold zz_sheet; omega), (fun q => absurd q (by omega)), (fun _ => ⟨zz_HX.up q12 r12 (congrArg Int32.toInt f15.1) (fun j hj hn => w15 _ _ (by first | (dsimp only; omega) | omega)), zz_HX.up q12 r12 (by rw [f15.2.1, if_pos (by omega)]; exact k_0) (fun j hj hn => w15 _ _ (by first | (dsimp only; omega) | omega)), zz_CX.cz q12 r12 f15.2.2 (fun j hj hn k => w15 _ _ (by first | (dsimp only; omega) | omega))⟩)⟩)
          · have c11 := zz_nleT c11
            refine lv_aload_n hx hb dX8_sheet_59 rfl (lv_at hl 0 rfl) ?_
            refine lv_iconst (v := 1) hx hb dX8_sheet_60 (by decide) ?_
            refine zz_callVi (As := [.int 1]) (rest := []) ⟨hx, hb, hml, hown, hts⟩ hK hP hS (c_X8_refuse l E σ h0 1 g0 (by omega)) (cwV 1 hts gX8_sheet_X8_refuse rfl rfl rfl (by decide +kernel) ⟨Nat.le_of_ble_eq_true rfl, Nat.le_of_ble_eq_true rfl⟩) (g0.1) rfl rfl hl.1 rfl (Nat.le_of_ble_eq_true rfl) dX8_sheet_61 ⟨Nat.zero_le _, Nat.zero_le _⟩ (fun r16 σ16 H locs q16 hP1 hS1 => ?_)
            replace hP := hP1
            replace hS := hS1
            clear hP1 hS1
            try dsimp only at q16
            obtain ⟨w16, f16⟩ := q16
            replace hC := hC.tr (w16.mono (dS16_24 h0))
            have hC0 := w16
            exact zz_iret hx hb hr hlocks hK hP hS dX8_sheet_64 (by exact ⟨hC, (hI.soft (w16.mono (by intro a k h; omega))), (by unfold zz_sheet; omega), (fun _ => ⟨zz_HX.eq (fun j hj => hC0 _ _ (by first | (dsimp only; omega) | omega)), zz_HX.eq (fun j hj => hC0 _ _ (by first | (dsimp only; omega) | omega)), zz_CX.eq (fun j hj k hk => hC0 _ _ (by first | (dsimp only; omega) | omega))⟩), (fun q => absurd q (by omega))⟩)
      · have c5 := zz_neT c5
        refine lv_iload_n hx hb dX8_sheet_39 rfl (lv_at hl 3 rfl) ?_
        refine lv_if_ge (tgt := 49) hx hb dX8_sheet_40 (by decide) (fun c17 => ?_) (fun c17 => ?_)
        · have c17 := zz_leT c17
          refine lv_iload_n hx hb dX8_sheet_49 rfl (lv_at hl 2 rfl) ?_
          refine lv_if_eq (tgt := 65) hx hb dX8_sheet_50 (by decide) (fun c18 => ?_) (fun c18 => ?_)
          · have c18 := zz_eqT c18
            refine lv_aload_n hx hb dX8_sheet_65 rfl (lv_at hl 0 rfl) ?_
            refine zz_getr hx hb hts hi8 hown hK hP (g0.1) rfl 3 (by decide) (hts (.fieldLink RX8 21 "NoonLaw" "sheets" "[LNoonLaw$Sheet;") (List.mem_cons_of_mem _ bm_19)) rfl rfl dX8_sheet_66 ?_
            refine lv_iload_n hx hb dX8_sheet_69 rfl (lv_at hl 1 rfl) ?_
            refine zz_aald hx hb hK hP (g0.2.2.2.1) rfl (by omega) (by omega) dX8_sheet_70 (fun j19 q19 r19 => ?_)
            skip
            refine lv_iload_n hx hb dX8_sheet_71 rfl (lv_at hl 2 rfl) ?_
            refine lv_iload_n hx hb dX8_sheet_72 rfl (lv_at hl 2 rfl) ?_
            refine lv_if_ne (tgt := 80) hx hb dX8_sheet_73 (by decide) (fun c20 => ?_) (fun c20 => ?_)
            · have c20 := zz_neT c20
              refine lv_iload_n hx hb dX8_sheet_80 rfl (lv_at hl 3 rfl) ?_
              skip
              refine zz_callVv (As := [.int bi, .int nn]) (rest := []) ⟨hx, hb, hml, hown, hts⟩ hK hP hS (c_X3_renew l E σ (h0 + 68 + 2 * j19) bi nn (g0.2.2.2.2.1 j19 r19)) (cwV 2 hts gX8_sheet_X3_renew rfl rfl rfl (by decide +kernel) ⟨Nat.le_of_ble_eq_true rfl, Nat.le_of_ble_eq_true rfl⟩) ((g0.2.2.2.2.1 j19 r19).1) rfl rfl hl.1 rfl (Nat.le_of_ble_eq_true rfl) dX8_sheet_81 ⟨Nat.zero_le _, Nat.zero_le _⟩ (fun σ21 H locs q21 hP1 hS1 => ?_)
              replace hP := hP1
              replace hS := hS1
              clear hP1 hS1
              try dsimp only at q21
              obtain ⟨w21, f21⟩ := q21
              replace hC := hC.tr (w21.mono (by intro a k h; first | (dsimp only at h ⊢; omega) | omega | (dsimp only at h; omega) | (dsimp only; omega)))
              refine lv_iconst (v := 1) hx hb dX8_sheet_84 (by decide) ?_
              exact zz_iret hx hb hr hlocks hK hP hS dX8_sheet_85 (by exact ⟨hC, ⟨(hI.1.keep (fun k => hC _ _ (by first | (dsimp only; omega) | omega)) (fun k => hC _ _ (by first | (dsimp only; omega) | omega)) (fun j hj k => hC _ _ (by first | (dsimp only; omega) | omega)) (fun j hj f hf => hC _ _ (by first | (dsimp only; omega) | omega))), (hkI.keep (fun k => hC _ _ (by first | (dsimp only; omega) | omega)) (fun k => hC _ _ (by first | (dsimp only; omega) | omega)) (fun j hj k => hC _ _ (by first | (dsimp only; omega) | omega)) (fun j hj f hf => hC _ _ (by first | (dsimp only; omega) | omega))), (fun j hj => if hq : j = j19 then (by rw [hq, f21.2.1]; omega) else (by rw [w21 _ _ (by omega)]; exact hsh j hj)), (by rw [hC _ _ (by first | (dsimp only; omega) | omega)]; exact hspk)⟩, (by unfold zz_sheet; omega), (fun q => absurd q (by omega)), (fun _ => ⟨zz_HX.up q19 r19 (congrArg Int32.toInt f21.1) (fun j hj hn => w21 _ _ (by first | (dsimp only; omega) | omega)), zz_HX.up q19 r19 (by rw [f21.2.1, if_neg (by omega)]) (fun j hj hn => w21 _ _ (by first | (dsimp only; omega) | omega)), zz_CX.cz q19 r19 f21.2.2 (fun j hj hn k => w21 _ _ (by first | (dsimp only; omega) | omega))⟩)⟩)
            · have c20 := zz_eqT c20
              refine lv_iconst (v := 0) hx hb dX8_sheet_76 (by decide) ?_
              refine lv_goto (tgt := 81) hx hb dX8_sheet_77 (by decide) ?_
              skip
              refine zz_callVv (As := [.int bi, .int 0]) (rest := []) ⟨hx, hb, hml, hown, hts⟩ hK hP hS (c_X3_renew l E σ (h0 + 68 + 2 * j19) bi 0 (g0.2.2.2.2.1 j19 r19)) (cwV 2 hts gX8_sheet_X3_renew rfl rfl rfl (by decide +kernel) ⟨Nat.le_of_ble_eq_true rfl, Nat.le_of_ble_eq_true rfl⟩) ((g0.2.2.2.2.1 j19 r19).1) rfl rfl hl.1 rfl (Nat.le_of_ble_eq_true rfl) dX8_sheet_81 ⟨Nat.zero_le _, Nat.zero_le _⟩ (fun σ22 H locs q22 hP1 hS1 => ?_)
              replace hP := hP1
              replace hS := hS1
              clear hP1 hS1
              try dsimp only at q22
              obtain ⟨w22, f22⟩ := q22
              replace hC := hC.tr (w22.mono (by intro a k h; first | (dsimp only at h ⊢; omega) | omega | (dsimp only at h; omega) | (dsimp only; omega)))
              refine lv_iconst (v := 1) hx hb dX8_sheet_84 (by decide) ?_
              exact zz_iret hx hb hr hlocks hK hP hS dX8_sheet_85 (by exact ⟨hC, ⟨(hI.1.keep (fun k => hC _ _ (by first | (dsimp only; omega) | omega)) (fun k => hC _ _ (by first | (dsimp only; omega) | omega)) (fun j hj k => hC _ _ (by first | (dsimp only; omega) | omega)) (fun j hj f hf => hC _ _ (by first | (dsimp only; omega) | omega))), (hkI.keep (fun k => hC _ _ (by first | (dsimp only; omega) | omega)) (fun k => hC _ _ (by first | (dsimp only; omega) | omega)) (fun j hj k => hC _ _ (by first | (dsimp only; omega) | omega)) (fun j hj f hf => hC _ _ (by first | (dsimp only; omega) | omega))), (fun j hj => if hq : j = j19 then (by rw [hq, f22.2.1]; omega) else (by rw [w22 _ _ (by omega)]; exact hsh j hj)), (by rw [hC _ _ (by first | (dsimp only; omega) | omega)]; exact hspk)⟩, (by unfold zz_sheet; omega), (fun q => absurd q (by omega)), (fun _ => ⟨zz_HX.up q19 r19 (congrArg Int32.toInt f22.1) (fun j hj hn => w22 _ _ (by first | (dsimp only; omega) | omega)), zz_HX.up q19 r19 (by rw [f22.2.1, if_pos (by omega)]; exact k_0) (fun j hj hn => w22 _ _ (by first | (dsimp only; omega) | omega)), zz_CX.cz q19 r19 f22.2.2 (fun j hj hn k => w22 _ _ (by first | (dsimp only; omega) | omega))⟩)⟩)
          · have c18 := zz_neT c18
            refine lv_iload_n hx hb dX8_sheet_53 rfl (lv_at hl 3 rfl) ?_
            refine lv_bipush (v := 24) hx hb dX8_sheet_54 (by decide) ?_
            refine lv_icmp_le (tgt := 65) hx hb dX8_sheet_56 (by decide) (fun c23 => ?_) (fun c23 => ?_)
            · have c23 := zz_leT c23
              refine lv_aload_n hx hb dX8_sheet_65 rfl (lv_at hl 0 rfl) ?_
              refine zz_getr hx hb hts hi8 hown hK hP (g0.1) rfl 3 (by decide) (hts (.fieldLink RX8 21 "NoonLaw" "sheets" "[LNoonLaw$Sheet;") (List.mem_cons_of_mem _ bm_19)) rfl rfl dX8_sheet_66 ?_
              refine lv_iload_n hx hb dX8_sheet_69 rfl (lv_at hl 1 rfl) ?_
              refine zz_aald hx hb hK hP (g0.2.2.2.1) rfl (by omega) (by omega) dX8_sheet_70 (fun j24 q24 r24 => ?_)
              skip
              refine lv_iload_n hx hb dX8_sheet_71 rfl (lv_at hl 2 rfl) ?_
              refine lv_iload_n hx hb dX8_sheet_72 rfl (lv_at hl 2 rfl) ?_
              refine lv_if_ne (tgt := 80) hx hb dX8_sheet_73 (by decide) (fun c25 => ?_) (fun c25 => ?_)
              · have c25 := zz_neT c25
                refine lv_iload_n hx hb dX8_sheet_80 rfl (lv_at hl 3 rfl) ?_
                skip
                refine zz_callVv (As := [.int bi, .int nn]) (rest := []) ⟨hx, hb, hml, hown, hts⟩ hK hP hS (c_X3_renew l E σ (h0 + 68 + 2 * j24) bi nn (g0.2.2.2.2.1 j24 r24)) (cwV 2 hts gX8_sheet_X3_renew rfl rfl rfl (by decide +kernel) ⟨Nat.le_of_ble_eq_true rfl, Nat.le_of_ble_eq_true rfl⟩) ((g0.2.2.2.2.1 j24 r24).1) rfl rfl hl.1 rfl (Nat.le_of_ble_eq_true rfl) dX8_sheet_81 ⟨Nat.zero_le _, Nat.zero_le _⟩ (fun σ26 H locs q26 hP1 hS1 => ?_)
                replace hP := hP1
                replace hS := hS1
                clear hP1 hS1
                try dsimp only at q26
                obtain ⟨w26, f26⟩ := q26
                replace hC := hC.tr (w26.mono (by intro a k h; first | (dsimp only at h ⊢; omega) | omega | (dsimp only at h; omega) | (dsimp only; omega)))
                refine lv_iconst (v := 1) hx hb dX8_sheet_84 (by decide) ?_
                exact zz_iret hx hb hr hlocks hK hP hS dX8_sheet_85 (by exact ⟨hC, ⟨(hI.1.keep (fun k => hC _ _ (by first | (dsimp only; omega) | omega)) (fun k => hC _ _ (by first | (dsimp only; omega) | omega)) (fun j hj k => hC _ _ (by first | (dsimp only; omega) | omega)) (fun j hj f hf => hC _ _ (by first | (dsimp only; omega) | omega))), (hkI.keep (fun k => hC _ _ (by first | (dsimp only; omega) | omega)) (fun k => hC _ _ (by first | (dsimp only; omega) | omega)) (fun j hj k => hC _ _ (by first | (dsimp only; omega) | omega)) (fun j hj f hf => hC _ _ (by first | (dsimp only; omega) | omega))), (fun j hj => if hq : j = j24 then (by rw [hq, f26.2.1]; omega) else (by rw [w26 _ _ (by omega)]; exact hsh j hj)), (by rw [hC _ _ (by first | (dsimp only; omega) | omega)]; exact hspk)⟩, (by unfold zz_sheet; omega), (fun q => absurd q (by omega)), (fun _ => ⟨zz_HX.up q24 r24 (congrArg Int32.toInt f26.1) (fun j hj hn => w26 _ _ (by first | (dsimp only; omega) | omega)), zz_HX.up q24 r24 (by rw [f26.2.1, if_neg (by omega)]) (fun j hj hn => w26 _ _ (by first | (dsimp only; omega) | omega)), zz_CX.cz q24 r24 f26.2.2 (fun j hj hn k => w26 _ _ (by first | (dsimp only; omega) | omega))⟩)⟩)
              · have c25 := zz_eqT c25
                refine lv_iconst (v := 0) hx hb dX8_sheet_76 (by decide) ?_
                refine lv_goto (tgt := 81) hx hb dX8_sheet_77 (by decide) ?_
                skip
                refine zz_callVv (As := [.int bi, .int 0]) (rest := []) ⟨hx, hb, hml, hown, hts⟩ hK hP hS (c_X3_renew l E σ (h0 + 68 + 2 * j24) bi 0 (g0.2.2.2.2.1 j24 r24)) (cwV 2 hts gX8_sheet_X3_renew rfl rfl rfl (by decide +kernel) ⟨Nat.le_of_ble_eq_true rfl, Nat.le_of_ble_eq_true rfl⟩) ((g0.2.2.2.2.1 j24 r24).1) rfl rfl hl.1 rfl (Nat.le_of_ble_eq_true rfl) dX8_sheet_81 ⟨Nat.zero_le _, Nat.zero_le _⟩ (fun σ27 H locs q27 hP1 hS1 => ?_)
                replace hP := hP1
                replace hS := hS1
                clear hP1 hS1
                try dsimp only at q27
                obtain ⟨w27, f27⟩ := q27
                replace hC := hC.tr (w27.mono (by intro a k h; first | (dsimp only at h ⊢; omega) | omega | (dsimp only at h; omega) | (dsimp only; omega)))
                refine lv_iconst (v := 1) hx hb dX8_sheet_84 (by decide) ?_
                exact zz_iret hx hb hr hlocks hK hP hS dX8_sheet_85 (by exact ⟨hC, ⟨(hI.1.keep (fun k => hC _ _ (by first | (dsimp only; omega) | omega)) (fun k => hC _ _ (by first | (dsimp only; omega) | omega)) (fun j hj k => hC _ _ (by first | (dsimp only; omega) | omega)) (fun j hj f hf => hC _ _ (by first | (dsimp only; omega) | omega))), (hkI.keep (fun k => hC _ _ (by first | (dsimp only; omega) | omega)) (fun k => hC _ _ (by first | (dsimp only; omega) | omega)) (fun j hj k => hC _ _ (by first | (dsimp only; omega) | omega)) (fun j hj f hf => hC _ _ (by first | (dsimp only; omega) | omega))), (fun j hj => if hq : j = j24 then (by rw [hq, f27.2.1]; omega) else (by rw [w27 _ _ (by omega)]; exact hsh j hj)), (by rw [hC _ _ (by first | (dsimp only; omega) | omega)]; exact hspk)⟩, (by unfold zz_sheet; omega), (fun q => absurd q (by omega)), (fun _ => ⟨zz_HX.up q24 r24 (congrArg Int32.toInt f27.1) (fun j hj hn => w27 _ _ (by first | (dsimp only; omega) | omega)), zz_HX.up q24 r24 (by rw [f27.2.1, if_pos (by omega)]; exact k_0) (fun j hj hn => w27 _ _ (by first | (dsimp only; omega) | omega)), zz_CX.cz q24 r24 f27.2.2 (fun j hj hn k => w27 _ _ (by first | (dsimp only; omega) | omega))⟩)⟩)
            · have c23 := zz_nleT c23
              refine lv_aload_n hx hb dX8_sheet_59 rfl (lv_at hl 0 rfl) ?_
              refine lv_iconst (v := 1) hx hb dX8_sheet_60 (by decide) ?_
              refine zz_callVi (As := [.int 1]) (rest := []) ⟨hx, hb, hml, hown, hts⟩ hK hP hS (c_X8_refuse l E σ h0 1 g0 (by omega)) (cwV 1 hts gX8_sheet_X8_refuse rfl rfl rfl (by decide +kernel) ⟨Nat.le_of_ble_eq_true rfl, Nat.le_of_ble_eq_true rfl⟩) (g0.1) rfl rfl hl.1 rfl (Nat.le_of_ble_eq_true rfl) dX8_sheet_61 ⟨Nat.zero_le _, Nat.zero_le _⟩ (fun r28 σ28 H locs q28 hP1 hS1 => ?_)
              replace hP := hP1
              replace hS := hS1
              clear hP1 hS1
              try dsimp only at q28
              obtain ⟨w28, f28⟩ := q28
              replace hC := hC.tr (w28.mono (dS16_24 h0))
              have hC0 := w28
              exact zz_iret hx hb hr hlocks hK hP hS dX8_sheet_64 (by exact ⟨hC, (hI.soft (w28.mono (by intro a k h; omega))), (by unfold zz_sheet; omega), (fun _ => ⟨zz_HX.eq (fun j hj => hC0 _ _ (by first | (dsimp only; omega) | omega)), zz_HX.eq (fun j hj => hC0 _ _ (by first | (dsimp only; omega) | omega)), zz_CX.eq (fun j hj k hk => hC0 _ _ (by first | (dsimp only; omega) | omega))⟩), (fun q => absurd q (by omega))⟩)
        · have c17 := zz_nleT c17
          refine lv_aload_n hx hb dX8_sheet_43 rfl (lv_at hl 0 rfl) ?_
          refine lv_iconst (v := 3) hx hb dX8_sheet_44 (by decide) ?_
          refine zz_callVi (As := [.int 3]) (rest := []) ⟨hx, hb, hml, hown, hts⟩ hK hP hS (c_X8_refuse l E σ h0 3 g0 (by omega)) (cwV 1 hts gX8_sheet_X8_refuse rfl rfl rfl (by decide +kernel) ⟨Nat.le_of_ble_eq_true rfl, Nat.le_of_ble_eq_true rfl⟩) (g0.1) rfl rfl hl.1 rfl (Nat.le_of_ble_eq_true rfl) dX8_sheet_45 ⟨Nat.zero_le _, Nat.zero_le _⟩ (fun r29 σ29 H locs q29 hP1 hS1 => ?_)
          replace hP := hP1
          replace hS := hS1
          clear hP1 hS1
          try dsimp only at q29
          obtain ⟨w29, f29⟩ := q29
          replace hC := hC.tr (w29.mono (dS16_24 h0))
          have hC0 := w29
          exact zz_iret hx hb hr hlocks hK hP hS dX8_sheet_48 (by exact ⟨hC, (hI.soft (w29.mono (by intro a k h; omega))), (by unfold zz_sheet; omega), (fun _ => ⟨zz_HX.eq (fun j hj => hC0 _ _ (by first | (dsimp only; omega) | omega)), zz_HX.eq (fun j hj => hC0 _ _ (by first | (dsimp only; omega) | omega)), zz_CX.eq (fun j hj k hk => hC0 _ _ (by first | (dsimp only; omega) | omega))⟩), (fun q => absurd q (by omega))⟩)
    · have c4 := zz_neT c4
      refine lv_iload_n hx hb dX8_sheet_11 rfl (lv_at hl 2 rfl) ?_
      refine lv_bipush (v := 8) hx hb dX8_sheet_12 (by decide) ?_
      refine lv_icmp_eq (tgt := 35) hx hb dX8_sheet_14 (by decide) (fun c30 => ?_) (fun c30 => ?_)
      · have c30 := zz_eqT c30
        refine lv_iload_n hx hb dX8_sheet_35 rfl (lv_at hl 2 rfl) ?_
        refine lv_if_eq (tgt := 49) hx hb dX8_sheet_36 (by decide) (fun c31 => ?_) (fun c31 => ?_)
        · have c31 := zz_eqT c31
          refine lv_iload_n hx hb dX8_sheet_49 rfl (lv_at hl 2 rfl) ?_
          refine lv_if_eq (tgt := 65) hx hb dX8_sheet_50 (by decide) (fun c32 => ?_) (fun c32 => ?_)
          · have c32 := zz_eqT c32
            refine lv_aload_n hx hb dX8_sheet_65 rfl (lv_at hl 0 rfl) ?_
            refine zz_getr hx hb hts hi8 hown hK hP (g0.1) rfl 3 (by decide) (hts (.fieldLink RX8 21 "NoonLaw" "sheets" "[LNoonLaw$Sheet;") (List.mem_cons_of_mem _ bm_19)) rfl rfl dX8_sheet_66 ?_
            refine lv_iload_n hx hb dX8_sheet_69 rfl (lv_at hl 1 rfl) ?_
            refine zz_aald hx hb hK hP (g0.2.2.2.1) rfl (by omega) (by omega) dX8_sheet_70 (fun j33 q33 r33 => ?_)
            skip
            refine lv_iload_n hx hb dX8_sheet_71 rfl (lv_at hl 2 rfl) ?_
            refine lv_iload_n hx hb dX8_sheet_72 rfl (lv_at hl 2 rfl) ?_
            refine lv_if_ne (tgt := 80) hx hb dX8_sheet_73 (by decide) (fun c34 => ?_) (fun c34 => ?_)
            · have c34 := zz_neT c34
              refine lv_iload_n hx hb dX8_sheet_80 rfl (lv_at hl 3 rfl) ?_
              skip
              refine zz_callVv (As := [.int bi, .int nn]) (rest := []) ⟨hx, hb, hml, hown, hts⟩ hK hP hS (c_X3_renew l E σ (h0 + 68 + 2 * j33) bi nn (g0.2.2.2.2.1 j33 r33)) (cwV 2 hts gX8_sheet_X3_renew rfl rfl rfl (by decide +kernel) ⟨Nat.le_of_ble_eq_true rfl, Nat.le_of_ble_eq_true rfl⟩) ((g0.2.2.2.2.1 j33 r33).1) rfl rfl hl.1 rfl (Nat.le_of_ble_eq_true rfl) dX8_sheet_81 ⟨Nat.zero_le _, Nat.zero_le _⟩ (fun σ35 H locs q35 hP1 hS1 => ?_)
              replace hP := hP1
              replace hS := hS1
              clear hP1 hS1
              try dsimp only at q35
              obtain ⟨w35, f35⟩ := q35
              replace hC := hC.tr (w35.mono (by intro a k h; first | (dsimp only at h ⊢; omega) | omega | (dsimp only at h; omega) | (dsimp only; omega)))
              refine lv_iconst (v := 1) hx hb dX8_sheet_84 (by decide) ?_
              exact zz_iret hx hb hr hlocks hK hP hS dX8_sheet_85 (by exact ⟨hC, ⟨(hI.1.keep (fun k => hC _ _ (by first | (dsimp only; omega) | omega)) (fun k => hC _ _ (by first | (dsimp only; omega) | omega)) (fun j hj k => hC _ _ (by first | (dsimp only; omega) | omega)) (fun j hj f hf => hC _ _ (by first | (dsimp only; omega) | omega))), (hkI.keep (fun k => hC _ _ (by first | (dsimp only; omega) | omega)) (fun k => hC _ _ (by first | (dsimp only; omega) | omega)) (fun j hj k => hC _ _ (by first | (dsimp only; omega) | omega)) (fun j hj f hf => hC _ _ (by first | (dsimp only; omega) | omega))), (fun j hj => if hq : j = j33 then (by rw [hq, f35.2.1]; omega) else (by rw [w35 _ _ (by omega)]; exact hsh j hj)), (by rw [hC _ _ (by first | (dsimp only; omega) | omega)]; exact hspk)⟩, (by unfold zz_sheet; omega), (fun q => absurd q (by omega)), (fun _ => ⟨zz_HX.up q33 r33 (congrArg Int32.toInt f35.1) (fun j hj hn => w35 _ _ (by first | (dsimp only; omega) | omega)), zz_HX.up q33 r33 (by rw [f35.2.1, if_neg (by omega)]) (fun j hj hn => w35 _ _ (by first | (dsimp only; omega) | omega)), zz_CX.cz q33 r33 f35.2.2 (fun j hj hn k => w35 _ _ (by first | (dsimp only; omega) | omega))⟩)⟩)
            · have c34 := zz_eqT c34
              refine lv_iconst (v := 0) hx hb dX8_sheet_76 (by decide) ?_
              refine lv_goto (tgt := 81) hx hb dX8_sheet_77 (by decide) ?_
              skip
              refine zz_callVv (As := [.int bi, .int 0]) (rest := []) ⟨hx, hb, hml, hown, hts⟩ hK hP hS (c_X3_renew l E σ (h0 + 68 + 2 * j33) bi 0 (g0.2.2.2.2.1 j33 r33)) (cwV 2 hts gX8_sheet_X3_renew rfl rfl rfl (by decide +kernel) ⟨Nat.le_of_ble_eq_true rfl, Nat.le_of_ble_eq_true rfl⟩) ((g0.2.2.2.2.1 j33 r33).1) rfl rfl hl.1 rfl (Nat.le_of_ble_eq_true rfl) dX8_sheet_81 ⟨Nat.zero_le _, Nat.zero_le _⟩ (fun σ36 H locs q36 hP1 hS1 => ?_)
              replace hP := hP1
              replace hS := hS1
              clear hP1 hS1
              try dsimp only at q36
              obtain ⟨w36, f36⟩ := q36
              replace hC := hC.tr (w36.mono (by intro a k h; first | (dsimp only at h ⊢; omega) | omega | (dsimp only at h; omega) | (dsimp only; omega)))
              refine lv_iconst (v := 1) hx hb dX8_sheet_84 (by decide) ?_
              exact zz_iret hx hb hr hlocks hK hP hS dX8_sheet_85 (by exact ⟨hC, ⟨(hI.1.keep (fun k => hC _ _ (by first | (dsimp only; omega) | omega)) (fun k => hC _ _ (by first | (dsimp only; omega) | omega)) (fun j hj k => hC _ _ (by first | (dsimp only; omega) | omega)) (fun j hj f hf => hC _ _ (by first | (dsimp only; omega) | omega))), (hkI.keep (fun k => hC _ _ (by first | (dsimp only; omega) | omega)) (fun k => hC _ _ (by first | (dsimp only; omega) | omega)) (fun j hj k => hC _ _ (by first | (dsimp only; omega) | omega)) (fun j hj f hf => hC _ _ (by first | (dsimp only; omega) | omega))), (fun j hj => if hq : j = j33 then (by rw [hq, f36.2.1]; omega) else (by rw [w36 _ _ (by omega)]; exact hsh j hj)), (by rw [hC _ _ (by first | (dsimp only; omega) | omega)]; exact hspk)⟩, (by unfold zz_sheet; omega), (fun q => absurd q (by omega)), (fun _ => ⟨zz_HX.up q33 r33 (congrArg Int32.toInt f36.1) (fun j hj hn => w36 _ _ (by first | (dsimp only; omega) | omega)), zz_HX.up q33 r33 (by rw [f36.2.1, if_pos (by omega)]; exact k_0) (fun j hj hn => w36 _ _ (by first | (dsimp only; omega) | omega)), zz_CX.cz q33 r33 f36.2.2 (fun j hj hn k => w36 _ _ (by first | (dsimp only; omega) | omega))⟩)⟩)
          · have c32 := zz_neT c32
            refine lv_iload_n hx hb dX8_sheet_53 rfl (lv_at hl 3 rfl) ?_
            refine lv_bipush (v := 24) hx hb dX8_sheet_54 (by decide) ?_
            refine lv_icmp_le (tgt := 65) hx hb dX8_sheet_56 (by decide) (fun c37 => ?_) (fun c37 => ?_)
            · have c37 := zz_leT c37
              refine lv_aload_n hx hb dX8_sheet_65 rfl (lv_at hl 0 rfl) ?_
              refine zz_getr hx hb hts hi8 hown hK hP (g0.1) rfl 3 (by decide) (hts (.fieldLink RX8 21 "NoonLaw" "sheets" "[LNoonLaw$Sheet;") (List.mem_cons_of_mem _ bm_19)) rfl rfl dX8_sheet_66 ?_
              refine lv_iload_n hx hb dX8_sheet_69 rfl (lv_at hl 1 rfl) ?_
              refine zz_aald hx hb hK hP (g0.2.2.2.1) rfl (by omega) (by omega) dX8_sheet_70 (fun j38 q38 r38 => ?_)
              skip
              refine lv_iload_n hx hb dX8_sheet_71 rfl (lv_at hl 2 rfl) ?_
              refine lv_iload_n hx hb dX8_sheet_72 rfl (lv_at hl 2 rfl) ?_
              refine lv_if_ne (tgt := 80) hx hb dX8_sheet_73 (by decide) (fun c39 => ?_) (fun c39 => ?_)
              · have c39 := zz_neT c39
                refine lv_iload_n hx hb dX8_sheet_80 rfl (lv_at hl 3 rfl) ?_
                skip
                refine zz_callVv (As := [.int bi, .int nn]) (rest := []) ⟨hx, hb, hml, hown, hts⟩ hK hP hS (c_X3_renew l E σ (h0 + 68 + 2 * j38) bi nn (g0.2.2.2.2.1 j38 r38)) (cwV 2 hts gX8_sheet_X3_renew rfl rfl rfl (by decide +kernel) ⟨Nat.le_of_ble_eq_true rfl, Nat.le_of_ble_eq_true rfl⟩) ((g0.2.2.2.2.1 j38 r38).1) rfl rfl hl.1 rfl (Nat.le_of_ble_eq_true rfl) dX8_sheet_81 ⟨Nat.zero_le _, Nat.zero_le _⟩ (fun σ40 H locs q40 hP1 hS1 => ?_)
                replace hP := hP1
                replace hS := hS1
                clear hP1 hS1
                try dsimp only at q40
                obtain ⟨w40, f40⟩ := q40
                replace hC := hC.tr (w40.mono (by intro a k h; first | (dsimp only at h ⊢; omega) | omega | (dsimp only at h; omega) | (dsimp only; omega)))
                refine lv_iconst (v := 1) hx hb dX8_sheet_84 (by decide) ?_
                exact zz_iret hx hb hr hlocks hK hP hS dX8_sheet_85 (by exact ⟨hC, ⟨(hI.1.keep (fun k => hC _ _ (by first | (dsimp only; omega) | omega)) (fun k => hC _ _ (by first | (dsimp only; omega) | omega)) (fun j hj k => hC _ _ (by first | (dsimp only; omega) | omega)) (fun j hj f hf => hC _ _ (by first | (dsimp only; omega) | omega))), (hkI.keep (fun k => hC _ _ (by first | (dsimp only; omega) | omega)) (fun k => hC _ _ (by first | (dsimp only; omega) | omega)) (fun j hj k => hC _ _ (by first | (dsimp only; omega) | omega)) (fun j hj f hf => hC _ _ (by first | (dsimp only; omega) | omega))), (fun j hj => if hq : j = j38 then (by rw [hq, f40.2.1]; omega) else (by rw [w40 _ _ (by omega)]; exact hsh j hj)), (by rw [hC _ _ (by first | (dsimp only; omega) | omega)]; exact hspk)⟩, (by unfold zz_sheet; omega), (fun q => absurd q (by omega)), (fun _ => ⟨zz_HX.up q38 r38 (congrArg Int32.toInt f40.1) (fun j hj hn => w40 _ _ (by first | (dsimp only; omega) | omega)), zz_HX.up q38 r38 (by rw [f40.2.1, if_neg (by omega)]) (fun j hj hn => w40 _ _ (by first | (dsimp only; omega) | omega)), zz_CX.cz q38 r38 f40.2.2 (fun j hj hn k => w40 _ _ (by first | (dsimp only; omega) | omega))⟩)⟩)
              · have c39 := zz_eqT c39
                refine lv_iconst (v := 0) hx hb dX8_sheet_76 (by decide) ?_
                refine lv_goto (tgt := 81) hx hb dX8_sheet_77 (by decide) ?_
                skip
                refine zz_callVv (As := [.int bi, .int 0]) (rest := []) ⟨hx, hb, hml, hown, hts⟩ hK hP hS (c_X3_renew l E σ (h0 + 68 + 2 * j38) bi 0 (g0.2.2.2.2.1 j38 r38)) (cwV 2 hts gX8_sheet_X3_renew rfl rfl rfl (by decide +kernel) ⟨Nat.le_of_ble_eq_true rfl, Nat.le_of_ble_eq_true rfl⟩) ((g0.2.2.2.2.1 j38 r38).1) rfl rfl hl.1 rfl (Nat.le_of_ble_eq_true rfl) dX8_sheet_81 ⟨Nat.zero_le _, Nat.zero_le _⟩ (fun σ41 H locs q41 hP1 hS1 => ?_)
                replace hP := hP1
                replace hS := hS1
                clear hP1 hS1
                try dsimp only at q41
                obtain ⟨w41, f41⟩ := q41
                replace hC := hC.tr (w41.mono (by intro a k h; first | (dsimp only at h ⊢; omega) | omega | (dsimp only at h; omega) | (dsimp only; omega)))
                refine lv_iconst (v := 1) hx hb dX8_sheet_84 (by decide) ?_
                exact zz_iret hx hb hr hlocks hK hP hS dX8_sheet_85 (by exact ⟨hC, ⟨(hI.1.keep (fun k => hC _ _ (by first | (dsimp only; omega) | omega)) (fun k => hC _ _ (by first | (dsimp only; omega) | omega)) (fun j hj k => hC _ _ (by first | (dsimp only; omega) | omega)) (fun j hj f hf => hC _ _ (by first | (dsimp only; omega) | omega))), (hkI.keep (fun k => hC _ _ (by first | (dsimp only; omega) | omega)) (fun k => hC _ _ (by first | (dsimp only; omega) | omega)) (fun j hj k => hC _ _ (by first | (dsimp only; omega) | omega)) (fun j hj f hf => hC _ _ (by first | (dsimp only; omega) | omega))), (fun j hj => if hq : j = j38 then (by rw [hq, f41.2.1]; omega) else (by rw [w41 _ _ (by omega)]; exact hsh j hj)), (by rw [hC _ _ (by first | (dsimp only; omega) | omega)]; exact hspk)⟩, (by unfold zz_sheet; omega), (fun q => absurd q (by omega)), (fun _ => ⟨zz_HX.up q38 r38 (congrArg Int32.toInt f41.1) (fun j hj hn => w41 _ _ (by first | (dsimp only; omega) | omega)), zz_HX.up q38 r38 (by rw [f41.2.1, if_pos (by omega)]; exact k_0) (fun j hj hn => w41 _ _ (by first | (dsimp only; omega) | omega)), zz_CX.cz q38 r38 f41.2.2 (fun j hj hn k => w41 _ _ (by first | (dsimp only; omega) | omega))⟩)⟩)
            · have c37 := zz_nleT c37
              refine lv_aload_n hx hb dX8_sheet_59 rfl (lv_at hl 0 rfl) ?_
              refine lv_iconst (v := 1) hx hb dX8_sheet_60 (by decide) ?_
              refine zz_callVi (As := [.int 1]) (rest := []) ⟨hx, hb, hml, hown, hts⟩ hK hP hS (c_X8_refuse l E σ h0 1 g0 (by omega)) (cwV 1 hts gX8_sheet_X8_refuse rfl rfl rfl (by decide +kernel) ⟨Nat.le_of_ble_eq_true rfl, Nat.le_of_ble_eq_true rfl⟩) (g0.1) rfl rfl hl.1 rfl (Nat.le_of_ble_eq_true rfl) dX8_sheet_61 ⟨Nat.zero_le _, Nat.zero_le _⟩ (fun r42 σ42 H locs q42 hP1 hS1 => ?_)
              replace hP := hP1
              replace hS := hS1
              clear hP1 hS1
              try dsimp only at q42
              obtain ⟨w42, f42⟩ := q42
              replace hC := hC.tr (w42.mono (dS16_24 h0))
              have hC0 := w42
              exact zz_iret hx hb hr hlocks hK hP hS dX8_sheet_64 (by exact ⟨hC, (hI.soft (w42.mono (by intro a k h; omega))), (by unfold zz_sheet; omega), (fun _ => ⟨zz_HX.eq (fun j hj => hC0 _ _ (by first | (dsimp only; omega) | omega)), zz_HX.eq (fun j hj => hC0 _ _ (by first | (dsimp only; omega) | omega)), zz_CX.eq (fun j hj k hk => hC0 _ _ (by first | (dsimp only; omega) | omega))⟩), (fun q => absurd q (by omega))⟩)
        · have c31 := zz_neT c31
          refine lv_iload_n hx hb dX8_sheet_39 rfl (lv_at hl 3 rfl) ?_
          refine lv_if_ge (tgt := 49) hx hb dX8_sheet_40 (by decide) (fun c43 => ?_) (fun c43 => ?_)
          · have c43 := zz_leT c43
            refine lv_iload_n hx hb dX8_sheet_49 rfl (lv_at hl 2 rfl) ?_
            refine lv_if_eq (tgt := 65) hx hb dX8_sheet_50 (by decide) (fun c44 => ?_) (fun c44 => ?_)
            · have c44 := zz_eqT c44
              refine lv_aload_n hx hb dX8_sheet_65 rfl (lv_at hl 0 rfl) ?_
              refine zz_getr hx hb hts hi8 hown hK hP (g0.1) rfl 3 (by decide) (hts (.fieldLink RX8 21 "NoonLaw" "sheets" "[LNoonLaw$Sheet;") (List.mem_cons_of_mem _ bm_19)) rfl rfl dX8_sheet_66 ?_
              refine lv_iload_n hx hb dX8_sheet_69 rfl (lv_at hl 1 rfl) ?_
              refine zz_aald hx hb hK hP (g0.2.2.2.1) rfl (by omega) (by omega) dX8_sheet_70 (fun j45 q45 r45 => ?_)
              skip
              refine lv_iload_n hx hb dX8_sheet_71 rfl (lv_at hl 2 rfl) ?_
              refine lv_iload_n hx hb dX8_sheet_72 rfl (lv_at hl 2 rfl) ?_
              refine lv_if_ne (tgt := 80) hx hb dX8_sheet_73 (by decide) (fun c46 => ?_) (fun c46 => ?_)
              · have c46 := zz_neT c46
                refine lv_iload_n hx hb dX8_sheet_80 rfl (lv_at hl 3 rfl) ?_
                skip
                refine zz_callVv (As := [.int bi, .int nn]) (rest := []) ⟨hx, hb, hml, hown, hts⟩ hK hP hS (c_X3_renew l E σ (h0 + 68 + 2 * j45) bi nn (g0.2.2.2.2.1 j45 r45)) (cwV 2 hts gX8_sheet_X3_renew rfl rfl rfl (by decide +kernel) ⟨Nat.le_of_ble_eq_true rfl, Nat.le_of_ble_eq_true rfl⟩) ((g0.2.2.2.2.1 j45 r45).1) rfl rfl hl.1 rfl (Nat.le_of_ble_eq_true rfl) dX8_sheet_81 ⟨Nat.zero_le _, Nat.zero_le _⟩ (fun σ47 H locs q47 hP1 hS1 => ?_)
                replace hP := hP1
                replace hS := hS1
                clear hP1 hS1
                try dsimp only at q47
                obtain ⟨w47, f47⟩ := q47
                replace hC := hC.tr (w47.mono (by intro a k h; first | (dsimp only at h ⊢; omega) | omega | (dsimp only at h; omega) | (dsimp only; omega)))
                refine lv_iconst (v := 1) hx hb dX8_sheet_84 (by decide) ?_
                exact zz_iret hx hb hr hlocks hK hP hS dX8_sheet_85 (by exact ⟨hC, ⟨(hI.1.keep (fun k => hC _ _ (by first | (dsimp only; omega) | omega)) (fun k => hC _ _ (by first | (dsimp only; omega) | omega)) (fun j hj k => hC _ _ (by first | (dsimp only; omega) | omega)) (fun j hj f hf => hC _ _ (by first | (dsimp only; omega) | omega))), (hkI.keep (fun k => hC _ _ (by first | (dsimp only; omega) | omega)) (fun k => hC _ _ (by first | (dsimp only; omega) | omega)) (fun j hj k => hC _ _ (by first | (dsimp only; omega) | omega)) (fun j hj f hf => hC _ _ (by first | (dsimp only; omega) | omega))), (fun j hj => if hq : j = j45 then (by rw [hq, f47.2.1]; omega) else (by rw [w47 _ _ (by omega)]; exact hsh j hj)), (by rw [hC _ _ (by first | (dsimp only; omega) | omega)]; exact hspk)⟩, (by unfold zz_sheet; omega), (fun q => absurd q (by omega)), (fun _ => ⟨zz_HX.up q45 r45 (congrArg Int32.toInt f47.1) (fun j hj hn => w47 _ _ (by first | (dsimp only; omega) | omega)), zz_HX.up q45 r45 (by rw [f47.2.1, if_neg (by omega)]) (fun j hj hn => w47 _ _ (by first | (dsimp only; omega) | omega)), zz_CX.cz q45 r45 f47.2.2 (fun j hj hn k => w47 _ _ (by first | (dsimp only; omega) | omega))⟩)⟩)
              · have c46 := zz_eqT c46
                refine lv_iconst (v := 0) hx hb dX8_sheet_76 (by decide) ?_
                refine lv_goto (tgt := 81) hx hb dX8_sheet_77 (by decide) ?_
                skip
                refine zz_callVv (As := [.int bi, .int 0]) (rest := []) ⟨hx, hb, hml, hown, hts⟩ hK hP hS (c_X3_renew l E σ (h0 + 68 + 2 * j45) bi 0 (g0.2.2.2.2.1 j45 r45)) (cwV 2 hts gX8_sheet_X3_renew rfl rfl rfl (by decide +kernel) ⟨Nat.le_of_ble_eq_true rfl, Nat.le_of_ble_eq_true rfl⟩) ((g0.2.2.2.2.1 j45 r45).1) rfl rfl hl.1 rfl (Nat.le_of_ble_eq_true rfl) dX8_sheet_81 ⟨Nat.zero_le _, Nat.zero_le _⟩ (fun σ48 H locs q48 hP1 hS1 => ?_)
                replace hP := hP1
                replace hS := hS1
                clear hP1 hS1
                try dsimp only at q48
                obtain ⟨w48, f48⟩ := q48
                replace hC := hC.tr (w48.mono (by intro a k h; first | (dsimp only at h ⊢; omega) | omega | (dsimp only at h; omega) | (dsimp only; omega)))
                refine lv_iconst (v := 1) hx hb dX8_sheet_84 (by decide) ?_
                exact zz_iret hx hb hr hlocks hK hP hS dX8_sheet_85 (by exact ⟨hC, ⟨(hI.1.keep (fun k => hC _ _ (by first | (dsimp only; omega) | omega)) (fun k => hC _ _ (by first | (dsimp only; omega) | omega)) (fun j hj k => hC _ _ (by first | (dsimp only; omega) | omega)) (fun j hj f hf => hC _ _ (by first | (dsimp only; omega) | omega))), (hkI.keep (fun k => hC _ _ (by first | (dsimp only; omega) | omega)) (fun k => hC _ _ (by first | (dsimp only; omega) | omega)) (fun j hj k => hC _ _ (by first | (dsimp only; omega) | omega)) (fun j hj f hf => hC _ _ (by first | (dsimp only; omega) | omega))), (fun j hj => if hq : j = j45 then (by rw [hq, f48.2.1]; omega) else (by rw [w48 _ _ (by omega)]; exact hsh j hj)), (by rw [hC _ _ (by first | (dsimp only; omega) | omega)]; exact hspk)⟩, (by unfold zz_sheet; omega), (fun q => absurd q (by omega)), (fun _ => ⟨zz_HX.up q45 r45 (congrArg Int32.toInt f48.1) (fun j hj hn => w48 _ _ (by first | (dsimp only; omega) | omega)), zz_HX.up q45 r45 (by rw [f48.2.1, if_pos (by omega)]; exact k_0) (fun j hj hn => w48 _ _ (by first | (dsimp only; omega) | omega)), zz_CX.cz q45 r45 f48.2.2 (fun j hj hn k => w48 _ _ (by first | (dsimp only; omega) | omega))⟩)⟩)
            · have c44 := zz_neT c44
              refine lv_iload_n hx hb dX8_sheet_53 rfl (lv_at hl 3 rfl) ?_
              refine lv_bipush (v := 24) hx hb dX8_sheet_54 (by decide) ?_
              refine lv_icmp_le (tgt := 65) hx hb dX8_sheet_56 (by decide) (fun c49 => ?_) (fun c49 => ?_)
              · have c49 := zz_leT c49
                refine lv_aload_n hx hb dX8_sheet_65 rfl (lv_at hl 0 rfl) ?_
                refine zz_getr hx hb hts hi8 hown hK hP (g0.1) rfl 3 (by decide) (hts (.fieldLink RX8 21 "NoonLaw" "sheets" "[LNoonLaw$Sheet;") (List.mem_cons_of_mem _ bm_19)) rfl rfl dX8_sheet_66 ?_
                refine lv_iload_n hx hb dX8_sheet_69 rfl (lv_at hl 1 rfl) ?_
                refine zz_aald hx hb hK hP (g0.2.2.2.1) rfl (by omega) (by omega) dX8_sheet_70 (fun j50 q50 r50 => ?_)
                skip
                refine lv_iload_n hx hb dX8_sheet_71 rfl (lv_at hl 2 rfl) ?_
                refine lv_iload_n hx hb dX8_sheet_72 rfl (lv_at hl 2 rfl) ?_
                refine lv_if_ne (tgt := 80) hx hb dX8_sheet_73 (by decide) (fun c51 => ?_) (fun c51 => ?_)
                · have c51 := zz_neT c51
                  refine lv_iload_n hx hb dX8_sheet_80 rfl (lv_at hl 3 rfl) ?_
                  skip
                  refine zz_callVv (As := [.int bi, .int nn]) (rest := []) ⟨hx, hb, hml, hown, hts⟩ hK hP hS (c_X3_renew l E σ (h0 + 68 + 2 * j50) bi nn (g0.2.2.2.2.1 j50 r50)) (cwV 2 hts gX8_sheet_X3_renew rfl rfl rfl (by decide +kernel) ⟨Nat.le_of_ble_eq_true rfl, Nat.le_of_ble_eq_true rfl⟩) ((g0.2.2.2.2.1 j50 r50).1) rfl rfl hl.1 rfl (Nat.le_of_ble_eq_true rfl) dX8_sheet_81 ⟨Nat.zero_le _, Nat.zero_le _⟩ (fun σ52 H locs q52 hP1 hS1 => ?_)
                  replace hP := hP1
                  replace hS := hS1
                  clear hP1 hS1
                  try dsimp only at q52
                  obtain ⟨w52, f52⟩ := q52
                  replace hC := hC.tr (w52.mono (by intro a k h; first | (dsimp only at h ⊢; omega) | omega | (dsimp only at h; omega) | (dsimp only; omega)))
                  refine lv_iconst (v := 1) hx hb dX8_sheet_84 (by decide) ?_
                  exact zz_iret hx hb hr hlocks hK hP hS dX8_sheet_85 (by exact ⟨hC, ⟨(hI.1.keep (fun k => hC _ _ (by first | (dsimp only; omega) | omega)) (fun k => hC _ _ (by first | (dsimp only; omega) | omega)) (fun j hj k => hC _ _ (by first | (dsimp only; omega) | omega)) (fun j hj f hf => hC _ _ (by first | (dsimp only; omega) | omega))), (hkI.keep (fun k => hC _ _ (by first | (dsimp only; omega) | omega)) (fun k => hC _ _ (by first | (dsimp only; omega) | omega)) (fun j hj k => hC _ _ (by first | (dsimp only; omega) | omega)) (fun j hj f hf => hC _ _ (by first | (dsimp only; omega) | omega))), (fun j hj => if hq : j = j50 then (by rw [hq, f52.2.1]; omega) else (by rw [w52 _ _ (by omega)]; exact hsh j hj)), (by rw [hC _ _ (by first | (dsimp only; omega) | omega)]; exact hspk)⟩, (by unfold zz_sheet; omega), (fun q => absurd q (by omega)), (fun _ => ⟨zz_HX.up q50 r50 (congrArg Int32.toInt f52.1) (fun j hj hn => w52 _ _ (by first | (dsimp only; omega) | omega)), zz_HX.up q50 r50 (by rw [f52.2.1, if_neg (by omega)]) (fun j hj hn => w52 _ _ (by first | (dsimp only; omega) | omega)), zz_CX.cz q50 r50 f52.2.2 (fun j hj hn k => w52 _ _ (by first | (dsimp only; omega) | omega))⟩)⟩)
                · have c51 := zz_eqT c51
                  refine lv_iconst (v := 0) hx hb dX8_sheet_76 (by decide) ?_
                  refine lv_goto (tgt := 81) hx hb dX8_sheet_77 (by decide) ?_
                  skip
                  refine zz_callVv (As := [.int bi, .int 0]) (rest := []) ⟨hx, hb, hml, hown, hts⟩ hK hP hS (c_X3_renew l E σ (h0 + 68 + 2 * j50) bi 0 (g0.2.2.2.2.1 j50 r50)) (cwV 2 hts gX8_sheet_X3_renew rfl rfl rfl (by decide +kernel) ⟨Nat.le_of_ble_eq_true rfl, Nat.le_of_ble_eq_true rfl⟩) ((g0.2.2.2.2.1 j50 r50).1) rfl rfl hl.1 rfl (Nat.le_of_ble_eq_true rfl) dX8_sheet_81 ⟨Nat.zero_le _, Nat.zero_le _⟩ (fun σ53 H locs q53 hP1 hS1 => ?_)
                  replace hP := hP1
                  replace hS := hS1
                  clear hP1 hS1
                  try dsimp only at q53
                  obtain ⟨w53, f53⟩ := q53
                  replace hC := hC.tr (w53.mono (by intro a k h; first | (dsimp only at h ⊢; omega) | omega | (dsimp only at h; omega) | (dsimp only; omega)))
                  refine lv_iconst (v := 1) hx hb dX8_sheet_84 (by decide) ?_
                  exact zz_iret hx hb hr hlocks hK hP hS dX8_sheet_85 (by exact ⟨hC, ⟨(hI.1.keep (fun k => hC _ _ (by first | (dsimp only; omega) | omega)) (fun k => hC _ _ (by first | (dsimp only; omega) | omega)) (fun j hj k => hC _ _ (by first | (dsimp only; omega) | omega)) (fun j hj f hf => hC _ _ (by first | (dsimp only; omega) | omega))), (hkI.keep (fun k => hC _ _ (by first | (dsimp only; omega) | omega)) (fun k => hC _ _ (by first | (dsimp only; omega) | omega)) (fun j hj k => hC _ _ (by first | (dsimp only; omega) | omega)) (fun j hj f hf => hC _ _ (by first | (dsimp only; omega) | omega))), (fun j hj => if hq : j = j50 then (by rw [hq, f53.2.1]; omega) else (by rw [w53 _ _ (by omega)]; exact hsh j hj)), (by rw [hC _ _ (by first | (dsimp only; omega) | omega)]; exact hspk)⟩, (by unfold zz_sheet; omega), (fun q => absurd q (by omega)), (fun _ => ⟨zz_HX.up q50 r50 (congrArg Int32.toInt f53.1) (fun j hj hn => w53 _ _ (by first | (dsimp only; omega) | omega)), zz_HX.up q50 r50 (by rw [f53.2.1, if_pos (by omega)]; exact k_0) (fun j hj hn => w53 _ _ (by first | (dsimp only; omega) | omega)), zz_CX.cz q50 r50 f53.2.2 (fun j hj hn k => w53 _ _ (by first | (dsimp only; omega) | omega))⟩)⟩)
              · have c49 := zz_nleT c49
                refine lv_aload_n hx hb dX8_sheet_59 rfl (lv_at hl 0 rfl) ?_
                refine lv_iconst (v := 1) hx hb dX8_sheet_60 (by decide) ?_
                refine zz_callVi (As := [.int 1]) (rest := []) ⟨hx, hb, hml, hown, hts⟩ hK hP hS (c_X8_refuse l E σ h0 1 g0 (by omega)) (cwV 1 hts gX8_sheet_X8_refuse rfl rfl rfl (by decide +kernel) ⟨Nat.le_of_ble_eq_true rfl, Nat.le_of_ble_eq_true rfl⟩) (g0.1) rfl rfl hl.1 rfl (Nat.le_of_ble_eq_true rfl) dX8_sheet_61 ⟨Nat.zero_le _, Nat.zero_le _⟩ (fun r54 σ54 H locs q54 hP1 hS1 => ?_)
                replace hP := hP1
                replace hS := hS1
                clear hP1 hS1
                try dsimp only at q54
                obtain ⟨w54, f54⟩ := q54
                replace hC := hC.tr (w54.mono (dS16_24 h0))
                have hC0 := w54
                exact zz_iret hx hb hr hlocks hK hP hS dX8_sheet_64 (by exact ⟨hC, (hI.soft (w54.mono (by intro a k h; omega))), (by unfold zz_sheet; omega), (fun _ => ⟨zz_HX.eq (fun j hj => hC0 _ _ (by first | (dsimp only; omega) | omega)), zz_HX.eq (fun j hj => hC0 _ _ (by first | (dsimp only; omega) | omega)), zz_CX.eq (fun j hj k hk => hC0 _ _ (by first | (dsimp only; omega) | omega))⟩), (fun q => absurd q (by omega))⟩)
          · have c43 := zz_nleT c43
            refine lv_aload_n hx hb dX8_sheet_43 rfl (lv_at hl 0 rfl) ?_
            refine lv_iconst (v := 3) hx hb dX8_sheet_44 (by decide) ?_
            refine zz_callVi (As := [.int 3]) (rest := []) ⟨hx, hb, hml, hown, hts⟩ hK hP hS (c_X8_refuse l E σ h0 3 g0 (by omega)) (cwV 1 hts gX8_sheet_X8_refuse rfl rfl rfl (by decide +kernel) ⟨Nat.le_of_ble_eq_true rfl, Nat.le_of_ble_eq_true rfl⟩) (g0.1) rfl rfl hl.1 rfl (Nat.le_of_ble_eq_true rfl) dX8_sheet_45 ⟨Nat.zero_le _, Nat.zero_le _⟩ (fun r55 σ55 H locs q55 hP1 hS1 => ?_)
            replace hP := hP1
            replace hS := hS1
            clear hP1 hS1
            try dsimp only at q55
            obtain ⟨w55, f55⟩ := q55
            replace hC := hC.tr (w55.mono (dS16_24 h0))
            have hC0 := w55
            exact zz_iret hx hb hr hlocks hK hP hS dX8_sheet_48 (by exact ⟨hC, (hI.soft (w55.mono (by intro a k h; omega))), (by unfold zz_sheet; omega), (fun _ => ⟨zz_HX.eq (fun j hj => hC0 _ _ (by first | (dsimp only; omega) | omega)), zz_HX.eq (fun j hj => hC0 _ _ (by first | (dsimp only; omega) | omega)), zz_CX.eq (fun j hj k hk => hC0 _ _ (by first | (dsimp only; omega) | omega))⟩), (fun q => absurd q (by omega))⟩)
      · have c30 := zz_neT c30
        refine lv_iload_n hx hb dX8_sheet_17 rfl (lv_at hl 2 rfl) ?_
        refine lv_bipush (v := 16) hx hb dX8_sheet_18 (by decide) ?_
        refine lv_icmp_eq (tgt := 35) hx hb dX8_sheet_20 (by decide) (fun c56 => ?_) (fun c56 => ?_)
        · have c56 := zz_eqT c56
          refine lv_iload_n hx hb dX8_sheet_35 rfl (lv_at hl 2 rfl) ?_
          refine lv_if_eq (tgt := 49) hx hb dX8_sheet_36 (by decide) (fun c57 => ?_) (fun c57 => ?_)
          · have c57 := zz_eqT c57
            refine lv_iload_n hx hb dX8_sheet_49 rfl (lv_at hl 2 rfl) ?_
            refine lv_if_eq (tgt := 65) hx hb dX8_sheet_50 (by decide) (fun c58 => ?_) (fun c58 => ?_)
            · have c58 := zz_eqT c58
              refine lv_aload_n hx hb dX8_sheet_65 rfl (lv_at hl 0 rfl) ?_
              refine zz_getr hx hb hts hi8 hown hK hP (g0.1) rfl 3 (by decide) (hts (.fieldLink RX8 21 "NoonLaw" "sheets" "[LNoonLaw$Sheet;") (List.mem_cons_of_mem _ bm_19)) rfl rfl dX8_sheet_66 ?_
              refine lv_iload_n hx hb dX8_sheet_69 rfl (lv_at hl 1 rfl) ?_
              refine zz_aald hx hb hK hP (g0.2.2.2.1) rfl (by omega) (by omega) dX8_sheet_70 (fun j59 q59 r59 => ?_)
              skip
              refine lv_iload_n hx hb dX8_sheet_71 rfl (lv_at hl 2 rfl) ?_
              refine lv_iload_n hx hb dX8_sheet_72 rfl (lv_at hl 2 rfl) ?_
              refine lv_if_ne (tgt := 80) hx hb dX8_sheet_73 (by decide) (fun c60 => ?_) (fun c60 => ?_)
              · have c60 := zz_neT c60
                refine lv_iload_n hx hb dX8_sheet_80 rfl (lv_at hl 3 rfl) ?_
                skip
                refine zz_callVv (As := [.int bi, .int nn]) (rest := []) ⟨hx, hb, hml, hown, hts⟩ hK hP hS (c_X3_renew l E σ (h0 + 68 + 2 * j59) bi nn (g0.2.2.2.2.1 j59 r59)) (cwV 2 hts gX8_sheet_X3_renew rfl rfl rfl (by decide +kernel) ⟨Nat.le_of_ble_eq_true rfl, Nat.le_of_ble_eq_true rfl⟩) ((g0.2.2.2.2.1 j59 r59).1) rfl rfl hl.1 rfl (Nat.le_of_ble_eq_true rfl) dX8_sheet_81 ⟨Nat.zero_le _, Nat.zero_le _⟩ (fun σ61 H locs q61 hP1 hS1 => ?_)
                replace hP := hP1
                replace hS := hS1
                clear hP1 hS1
                try dsimp only at q61
                obtain ⟨w61, f61⟩ := q61
                replace hC := hC.tr (w61.mono (by intro a k h; first | (dsimp only at h ⊢; omega) | omega | (dsimp only at h; omega) | (dsimp only; omega)))
                refine lv_iconst (v := 1) hx hb dX8_sheet_84 (by decide) ?_
                exact zz_iret hx hb hr hlocks hK hP hS dX8_sheet_85 (by exact ⟨hC, ⟨(hI.1.keep (fun k => hC _ _ (by first | (dsimp only; omega) | omega)) (fun k => hC _ _ (by first | (dsimp only; omega) | omega)) (fun j hj k => hC _ _ (by first | (dsimp only; omega) | omega)) (fun j hj f hf => hC _ _ (by first | (dsimp only; omega) | omega))), (hkI.keep (fun k => hC _ _ (by first | (dsimp only; omega) | omega)) (fun k => hC _ _ (by first | (dsimp only; omega) | omega)) (fun j hj k => hC _ _ (by first | (dsimp only; omega) | omega)) (fun j hj f hf => hC _ _ (by first | (dsimp only; omega) | omega))), (fun j hj => if hq : j = j59 then (by rw [hq, f61.2.1]; omega) else (by rw [w61 _ _ (by omega)]; exact hsh j hj)), (by rw [hC _ _ (by first | (dsimp only; omega) | omega)]; exact hspk)⟩, (by unfold zz_sheet; omega), (fun q => absurd q (by omega)), (fun _ => ⟨zz_HX.up q59 r59 (congrArg Int32.toInt f61.1) (fun j hj hn => w61 _ _ (by first | (dsimp only; omega) | omega)), zz_HX.up q59 r59 (by rw [f61.2.1, if_neg (by omega)]) (fun j hj hn => w61 _ _ (by first | (dsimp only; omega) | omega)), zz_CX.cz q59 r59 f61.2.2 (fun j hj hn k => w61 _ _ (by first | (dsimp only; omega) | omega))⟩)⟩)
              · have c60 := zz_eqT c60
                refine lv_iconst (v := 0) hx hb dX8_sheet_76 (by decide) ?_
                refine lv_goto (tgt := 81) hx hb dX8_sheet_77 (by decide) ?_
                skip
                refine zz_callVv (As := [.int bi, .int 0]) (rest := []) ⟨hx, hb, hml, hown, hts⟩ hK hP hS (c_X3_renew l E σ (h0 + 68 + 2 * j59) bi 0 (g0.2.2.2.2.1 j59 r59)) (cwV 2 hts gX8_sheet_X3_renew rfl rfl rfl (by decide +kernel) ⟨Nat.le_of_ble_eq_true rfl, Nat.le_of_ble_eq_true rfl⟩) ((g0.2.2.2.2.1 j59 r59).1) rfl rfl hl.1 rfl (Nat.le_of_ble_eq_true rfl) dX8_sheet_81 ⟨Nat.zero_le _, Nat.zero_le _⟩ (fun σ62 H locs q62 hP1 hS1 => ?_)
                replace hP := hP1
                replace hS := hS1
                clear hP1 hS1
                try dsimp only at q62
                obtain ⟨w62, f62⟩ := q62
                replace hC := hC.tr (w62.mono (by intro a k h; first | (dsimp only at h ⊢; omega) | omega | (dsimp only at h; omega) | (dsimp only; omega)))
                refine lv_iconst (v := 1) hx hb dX8_sheet_84 (by decide) ?_
                exact zz_iret hx hb hr hlocks hK hP hS dX8_sheet_85 (by exact ⟨hC, ⟨(hI.1.keep (fun k => hC _ _ (by first | (dsimp only; omega) | omega)) (fun k => hC _ _ (by first | (dsimp only; omega) | omega)) (fun j hj k => hC _ _ (by first | (dsimp only; omega) | omega)) (fun j hj f hf => hC _ _ (by first | (dsimp only; omega) | omega))), (hkI.keep (fun k => hC _ _ (by first | (dsimp only; omega) | omega)) (fun k => hC _ _ (by first | (dsimp only; omega) | omega)) (fun j hj k => hC _ _ (by first | (dsimp only; omega) | omega)) (fun j hj f hf => hC _ _ (by first | (dsimp only; omega) | omega))), (fun j hj => if hq : j = j59 then (by rw [hq, f62.2.1]; omega) else (by rw [w62 _ _ (by omega)]; exact hsh j hj)), (by rw [hC _ _ (by first | (dsimp only; omega) | omega)]; exact hspk)⟩, (by unfold zz_sheet; omega), (fun q => absurd q (by omega)), (fun _ => ⟨zz_HX.up q59 r59 (congrArg Int32.toInt f62.1) (fun j hj hn => w62 _ _ (by first | (dsimp only; omega) | omega)), zz_HX.up q59 r59 (by rw [f62.2.1, if_pos (by omega)]; exact k_0) (fun j hj hn => w62 _ _ (by first | (dsimp only; omega) | omega)), zz_CX.cz q59 r59 f62.2.2 (fun j hj hn k => w62 _ _ (by first | (dsimp only; omega) | omega))⟩)⟩)
            · have c58 := zz_neT c58
              refine lv_iload_n hx hb dX8_sheet_53 rfl (lv_at hl 3 rfl) ?_
              refine lv_bipush (v := 24) hx hb dX8_sheet_54 (by decide) ?_
              refine lv_icmp_le (tgt := 65) hx hb dX8_sheet_56 (by decide) (fun c63 => ?_) (fun c63 => ?_)
              · have c63 := zz_leT c63
                refine lv_aload_n hx hb dX8_sheet_65 rfl (lv_at hl 0 rfl) ?_
                refine zz_getr hx hb hts hi8 hown hK hP (g0.1) rfl 3 (by decide) (hts (.fieldLink RX8 21 "NoonLaw" "sheets" "[LNoonLaw$Sheet;") (List.mem_cons_of_mem _ bm_19)) rfl rfl dX8_sheet_66 ?_
                refine lv_iload_n hx hb dX8_sheet_69 rfl (lv_at hl 1 rfl) ?_
                refine zz_aald hx hb hK hP (g0.2.2.2.1) rfl (by omega) (by omega) dX8_sheet_70 (fun j64 q64 r64 => ?_)
                skip
                refine lv_iload_n hx hb dX8_sheet_71 rfl (lv_at hl 2 rfl) ?_
                refine lv_iload_n hx hb dX8_sheet_72 rfl (lv_at hl 2 rfl) ?_
                refine lv_if_ne (tgt := 80) hx hb dX8_sheet_73 (by decide) (fun c65 => ?_) (fun c65 => ?_)
                · have c65 := zz_neT c65
                  refine lv_iload_n hx hb dX8_sheet_80 rfl (lv_at hl 3 rfl) ?_
                  skip
                  refine zz_callVv (As := [.int bi, .int nn]) (rest := []) ⟨hx, hb, hml, hown, hts⟩ hK hP hS (c_X3_renew l E σ (h0 + 68 + 2 * j64) bi nn (g0.2.2.2.2.1 j64 r64)) (cwV 2 hts gX8_sheet_X3_renew rfl rfl rfl (by decide +kernel) ⟨Nat.le_of_ble_eq_true rfl, Nat.le_of_ble_eq_true rfl⟩) ((g0.2.2.2.2.1 j64 r64).1) rfl rfl hl.1 rfl (Nat.le_of_ble_eq_true rfl) dX8_sheet_81 ⟨Nat.zero_le _, Nat.zero_le _⟩ (fun σ66 H locs q66 hP1 hS1 => ?_)
                  replace hP := hP1
                  replace hS := hS1
                  clear hP1 hS1
                  try dsimp only at q66
                  obtain ⟨w66, f66⟩ := q66
                  replace hC := hC.tr (w66.mono (by intro a k h; first | (dsimp only at h ⊢; omega) | omega | (dsimp only at h; omega) | (dsimp only; omega)))
                  refine lv_iconst (v := 1) hx hb dX8_sheet_84 (by decide) ?_
                  exact zz_iret hx hb hr hlocks hK hP hS dX8_sheet_85 (by exact ⟨hC, ⟨(hI.1.keep (fun k => hC _ _ (by first | (dsimp only; omega) | omega)) (fun k => hC _ _ (by first | (dsimp only; omega) | omega)) (fun j hj k => hC _ _ (by first | (dsimp only; omega) | omega)) (fun j hj f hf => hC _ _ (by first | (dsimp only; omega) | omega))), (hkI.keep (fun k => hC _ _ (by first | (dsimp only; omega) | omega)) (fun k => hC _ _ (by first | (dsimp only; omega) | omega)) (fun j hj k => hC _ _ (by first | (dsimp only; omega) | omega)) (fun j hj f hf => hC _ _ (by first | (dsimp only; omega) | omega))), (fun j hj => if hq : j = j64 then (by rw [hq, f66.2.1]; omega) else (by rw [w66 _ _ (by omega)]; exact hsh j hj)), (by rw [hC _ _ (by first | (dsimp only; omega) | omega)]; exact hspk)⟩, (by unfold zz_sheet; omega), (fun q => absurd q (by omega)), (fun _ => ⟨zz_HX.up q64 r64 (congrArg Int32.toInt f66.1) (fun j hj hn => w66 _ _ (by first | (dsimp only; omega) | omega)), zz_HX.up q64 r64 (by rw [f66.2.1, if_neg (by omega)]) (fun j hj hn => w66 _ _ (by first | (dsimp only; omega) | omega)), zz_CX.cz q64 r64 f66.2.2 (fun j hj hn k => w66 _ _ (by first | (dsimp only; omega) | omega))⟩)⟩)
                · have c65 := zz_eqT c65
                  refine lv_iconst (v := 0) hx hb dX8_sheet_76 (by decide) ?_
                  refine lv_goto (tgt := 81) hx hb dX8_sheet_77 (by decide) ?_
                  skip
                  refine zz_callVv (As := [.int bi, .int 0]) (rest := []) ⟨hx, hb, hml, hown, hts⟩ hK hP hS (c_X3_renew l E σ (h0 + 68 + 2 * j64) bi 0 (g0.2.2.2.2.1 j64 r64)) (cwV 2 hts gX8_sheet_X3_renew rfl rfl rfl (by decide +kernel) ⟨Nat.le_of_ble_eq_true rfl, Nat.le_of_ble_eq_true rfl⟩) ((g0.2.2.2.2.1 j64 r64).1) rfl rfl hl.1 rfl (Nat.le_of_ble_eq_true rfl) dX8_sheet_81 ⟨Nat.zero_le _, Nat.zero_le _⟩ (fun σ67 H locs q67 hP1 hS1 => ?_)
                  replace hP := hP1
                  replace hS := hS1
                  clear hP1 hS1
                  try dsimp only at q67
                  obtain ⟨w67, f67⟩ := q67
                  replace hC := hC.tr (w67.mono (by intro a k h; first | (dsimp only at h ⊢; omega) | omega | (dsimp only at h; omega) | (dsimp only; omega)))
                  refine lv_iconst (v := 1) hx hb dX8_sheet_84 (by decide) ?_
                  exact zz_iret hx hb hr hlocks hK hP hS dX8_sheet_85 (by exact ⟨hC, ⟨(hI.1.keep (fun k => hC _ _ (by first | (dsimp only; omega) | omega)) (fun k => hC _ _ (by first | (dsimp only; omega) | omega)) (fun j hj k => hC _ _ (by first | (dsimp only; omega) | omega)) (fun j hj f hf => hC _ _ (by first | (dsimp only; omega) | omega))), (hkI.keep (fun k => hC _ _ (by first | (dsimp only; omega) | omega)) (fun k => hC _ _ (by first | (dsimp only; omega) | omega)) (fun j hj k => hC _ _ (by first | (dsimp only; omega) | omega)) (fun j hj f hf => hC _ _ (by first | (dsimp only; omega) | omega))), (fun j hj => if hq : j = j64 then (by rw [hq, f67.2.1]; omega) else (by rw [w67 _ _ (by omega)]; exact hsh j hj)), (by rw [hC _ _ (by first | (dsimp only; omega) | omega)]; exact hspk)⟩, (by unfold zz_sheet; omega), (fun q => absurd q (by omega)), (fun _ => ⟨zz_HX.up q64 r64 (congrArg Int32.toInt f67.1) (fun j hj hn => w67 _ _ (by first | (dsimp only; omega) | omega)), zz_HX.up q64 r64 (by rw [f67.2.1, if_pos (by omega)]; exact k_0) (fun j hj hn => w67 _ _ (by first | (dsimp only; omega) | omega)), zz_CX.cz q64 r64 f67.2.2 (fun j hj hn k => w67 _ _ (by first | (dsimp only; omega) | omega))⟩)⟩)
              · have c63 := zz_nleT c63
                refine lv_aload_n hx hb dX8_sheet_59 rfl (lv_at hl 0 rfl) ?_
                refine lv_iconst (v := 1) hx hb dX8_sheet_60 (by decide) ?_
                refine zz_callVi (As := [.int 1]) (rest := []) ⟨hx, hb, hml, hown, hts⟩ hK hP hS (c_X8_refuse l E σ h0 1 g0 (by omega)) (cwV 1 hts gX8_sheet_X8_refuse rfl rfl rfl (by decide +kernel) ⟨Nat.le_of_ble_eq_true rfl, Nat.le_of_ble_eq_true rfl⟩) (g0.1) rfl rfl hl.1 rfl (Nat.le_of_ble_eq_true rfl) dX8_sheet_61 ⟨Nat.zero_le _, Nat.zero_le _⟩ (fun r68 σ68 H locs q68 hP1 hS1 => ?_)
                replace hP := hP1
                replace hS := hS1
                clear hP1 hS1
                try dsimp only at q68
                obtain ⟨w68, f68⟩ := q68
                replace hC := hC.tr (w68.mono (dS16_24 h0))
                have hC0 := w68
                exact zz_iret hx hb hr hlocks hK hP hS dX8_sheet_64 (by exact ⟨hC, (hI.soft (w68.mono (by intro a k h; omega))), (by unfold zz_sheet; omega), (fun _ => ⟨zz_HX.eq (fun j hj => hC0 _ _ (by first | (dsimp only; omega) | omega)), zz_HX.eq (fun j hj => hC0 _ _ (by first | (dsimp only; omega) | omega)), zz_CX.eq (fun j hj k hk => hC0 _ _ (by first | (dsimp only; omega) | omega))⟩), (fun q => absurd q (by omega))⟩)
          · have c57 := zz_neT c57
            refine lv_iload_n hx hb dX8_sheet_39 rfl (lv_at hl 3 rfl) ?_
            refine lv_if_ge (tgt := 49) hx hb dX8_sheet_40 (by decide) (fun c69 => ?_) (fun c69 => ?_)
            · have c69 := zz_leT c69
              refine lv_iload_n hx hb dX8_sheet_49 rfl (lv_at hl 2 rfl) ?_
              refine lv_if_eq (tgt := 65) hx hb dX8_sheet_50 (by decide) (fun c70 => ?_) (fun c70 => ?_)
              · have c70 := zz_eqT c70
                refine lv_aload_n hx hb dX8_sheet_65 rfl (lv_at hl 0 rfl) ?_
                refine zz_getr hx hb hts hi8 hown hK hP (g0.1) rfl 3 (by decide) (hts (.fieldLink RX8 21 "NoonLaw" "sheets" "[LNoonLaw$Sheet;") (List.mem_cons_of_mem _ bm_19)) rfl rfl dX8_sheet_66 ?_
                refine lv_iload_n hx hb dX8_sheet_69 rfl (lv_at hl 1 rfl) ?_
                refine zz_aald hx hb hK hP (g0.2.2.2.1) rfl (by omega) (by omega) dX8_sheet_70 (fun j71 q71 r71 => ?_)
                skip
                refine lv_iload_n hx hb dX8_sheet_71 rfl (lv_at hl 2 rfl) ?_
                refine lv_iload_n hx hb dX8_sheet_72 rfl (lv_at hl 2 rfl) ?_
                refine lv_if_ne (tgt := 80) hx hb dX8_sheet_73 (by decide) (fun c72 => ?_) (fun c72 => ?_)
                · have c72 := zz_neT c72
                  refine lv_iload_n hx hb dX8_sheet_80 rfl (lv_at hl 3 rfl) ?_
                  skip
                  refine zz_callVv (As := [.int bi, .int nn]) (rest := []) ⟨hx, hb, hml, hown, hts⟩ hK hP hS (c_X3_renew l E σ (h0 + 68 + 2 * j71) bi nn (g0.2.2.2.2.1 j71 r71)) (cwV 2 hts gX8_sheet_X3_renew rfl rfl rfl (by decide +kernel) ⟨Nat.le_of_ble_eq_true rfl, Nat.le_of_ble_eq_true rfl⟩) ((g0.2.2.2.2.1 j71 r71).1) rfl rfl hl.1 rfl (Nat.le_of_ble_eq_true rfl) dX8_sheet_81 ⟨Nat.zero_le _, Nat.zero_le _⟩ (fun σ73 H locs q73 hP1 hS1 => ?_)
                  replace hP := hP1
                  replace hS := hS1
                  clear hP1 hS1
                  try dsimp only at q73
                  obtain ⟨w73, f73⟩ := q73
                  replace hC := hC.tr (w73.mono (by intro a k h; first | (dsimp only at h ⊢; omega) | omega | (dsimp only at h; omega) | (dsimp only; omega)))
                  refine lv_iconst (v := 1) hx hb dX8_sheet_84 (by decide) ?_
                  exact zz_iret hx hb hr hlocks hK hP hS dX8_sheet_85 (by exact ⟨hC, ⟨(hI.1.keep (fun k => hC _ _ (by first | (dsimp only; omega) | omega)) (fun k => hC _ _ (by first | (dsimp only; omega) | omega)) (fun j hj k => hC _ _ (by first | (dsimp only; omega) | omega)) (fun j hj f hf => hC _ _ (by first | (dsimp only; omega) | omega))), (hkI.keep (fun k => hC _ _ (by first | (dsimp only; omega) | omega)) (fun k => hC _ _ (by first | (dsimp only; omega) | omega)) (fun j hj k => hC _ _ (by first | (dsimp only; omega) | omega)) (fun j hj f hf => hC _ _ (by first | (dsimp only; omega) | omega))), (fun j hj => if hq : j = j71 then (by rw [hq, f73.2.1]; omega) else (by rw [w73 _ _ (by omega)]; exact hsh j hj)), (by rw [hC _ _ (by first | (dsimp only; omega) | omega)]; exact hspk)⟩, (by unfold zz_sheet; omega), (fun q => absurd q (by omega)), (fun _ => ⟨zz_HX.up q71 r71 (congrArg Int32.toInt f73.1) (fun j hj hn => w73 _ _ (by first | (dsimp only; omega) | omega)), zz_HX.up q71 r71 (by rw [f73.2.1, if_neg (by omega)]) (fun j hj hn => w73 _ _ (by first | (dsimp only; omega) | omega)), zz_CX.cz q71 r71 f73.2.2 (fun j hj hn k => w73 _ _ (by first | (dsimp only; omega) | omega))⟩)⟩)
                · have c72 := zz_eqT c72
                  refine lv_iconst (v := 0) hx hb dX8_sheet_76 (by decide) ?_
                  refine lv_goto (tgt := 81) hx hb dX8_sheet_77 (by decide) ?_
                  skip
                  refine zz_callVv (As := [.int bi, .int 0]) (rest := []) ⟨hx, hb, hml, hown, hts⟩ hK hP hS (c_X3_renew l E σ (h0 + 68 + 2 * j71) bi 0 (g0.2.2.2.2.1 j71 r71)) (cwV 2 hts gX8_sheet_X3_renew rfl rfl rfl (by decide +kernel) ⟨Nat.le_of_ble_eq_true rfl, Nat.le_of_ble_eq_true rfl⟩) ((g0.2.2.2.2.1 j71 r71).1) rfl rfl hl.1 rfl (Nat.le_of_ble_eq_true rfl) dX8_sheet_81 ⟨Nat.zero_le _, Nat.zero_le _⟩ (fun σ74 H locs q74 hP1 hS1 => ?_)
                  replace hP := hP1
                  replace hS := hS1
                  clear hP1 hS1
                  try dsimp only at q74
                  obtain ⟨w74, f74⟩ := q74
                  replace hC := hC.tr (w74.mono (by intro a k h; first | (dsimp only at h ⊢; omega) | omega | (dsimp only at h; omega) | (dsimp only; omega)))
                  refine lv_iconst (v := 1) hx hb dX8_sheet_84 (by decide) ?_
                  exact zz_iret hx hb hr hlocks hK hP hS dX8_sheet_85 (by exact ⟨hC, ⟨(hI.1.keep (fun k => hC _ _ (by first | (dsimp only; omega) | omega)) (fun k => hC _ _ (by first | (dsimp only; omega) | omega)) (fun j hj k => hC _ _ (by first | (dsimp only; omega) | omega)) (fun j hj f hf => hC _ _ (by first | (dsimp only; omega) | omega))), (hkI.keep (fun k => hC _ _ (by first | (dsimp only; omega) | omega)) (fun k => hC _ _ (by first | (dsimp only; omega) | omega)) (fun j hj k => hC _ _ (by first | (dsimp only; omega) | omega)) (fun j hj f hf => hC _ _ (by first | (dsimp only; omega) | omega))), (fun j hj => if hq : j = j71 then (by rw [hq, f74.2.1]; omega) else (by rw [w74 _ _ (by omega)]; exact hsh j hj)), (by rw [hC _ _ (by first | (dsimp only; omega) | omega)]; exact hspk)⟩, (by unfold zz_sheet; omega), (fun q => absurd q (by omega)), (fun _ => ⟨zz_HX.up q71 r71 (congrArg Int32.toInt f74.1) (fun j hj hn => w74 _ _ (by first | (dsimp only; omega) | omega)), zz_HX.up q71 r71 (by rw [f74.2.1, if_pos (by omega)]; exact k_0) (fun j hj hn => w74 _ _ (by first | (dsimp only; omega) | omega)), zz_CX.cz q71 r71 f74.2.2 (fun j hj hn k => w74 _ _ (by first | (dsimp only; omega) | omega))⟩)⟩)
              · have c70 := zz_neT c70
                refine lv_iload_n hx hb dX8_sheet_53 rfl (lv_at hl 3 rfl) ?_
                refine lv_bipush (v := 24) hx hb dX8_sheet_54 (by decide) ?_
                refine lv_icmp_le (tgt := 65) hx hb dX8_sheet_56 (by decide) (fun c75 => ?_) (fun c75 => ?_)
                · have c75 := zz_leT c75
                  refine lv_aload_n hx hb dX8_sheet_65 rfl (lv_at hl 0 rfl) ?_
                  refine zz_getr hx hb hts hi8 hown hK hP (g0.1) rfl 3 (by decide) (hts (.fieldLink RX8 21 "NoonLaw" "sheets" "[LNoonLaw$Sheet;") (List.mem_cons_of_mem _ bm_19)) rfl rfl dX8_sheet_66 ?_
                  refine lv_iload_n hx hb dX8_sheet_69 rfl (lv_at hl 1 rfl) ?_
                  refine zz_aald hx hb hK hP (g0.2.2.2.1) rfl (by omega) (by omega) dX8_sheet_70 (fun j76 q76 r76 => ?_)
                  skip
                  refine lv_iload_n hx hb dX8_sheet_71 rfl (lv_at hl 2 rfl) ?_
                  refine lv_iload_n hx hb dX8_sheet_72 rfl (lv_at hl 2 rfl) ?_
                  refine lv_if_ne (tgt := 80) hx hb dX8_sheet_73 (by decide) (fun c77 => ?_) (fun c77 => ?_)
                  · have c77 := zz_neT c77
                    refine lv_iload_n hx hb dX8_sheet_80 rfl (lv_at hl 3 rfl) ?_
                    skip
                    refine zz_callVv (As := [.int bi, .int nn]) (rest := []) ⟨hx, hb, hml, hown, hts⟩ hK hP hS (c_X3_renew l E σ (h0 + 68 + 2 * j76) bi nn (g0.2.2.2.2.1 j76 r76)) (cwV 2 hts gX8_sheet_X3_renew rfl rfl rfl (by decide +kernel) ⟨Nat.le_of_ble_eq_true rfl, Nat.le_of_ble_eq_true rfl⟩) ((g0.2.2.2.2.1 j76 r76).1) rfl rfl hl.1 rfl (Nat.le_of_ble_eq_true rfl) dX8_sheet_81 ⟨Nat.zero_le _, Nat.zero_le _⟩ (fun σ78 H locs q78 hP1 hS1 => ?_)
                    replace hP := hP1
                    replace hS := hS1
                    clear hP1 hS1
                    try dsimp only at q78
                    obtain ⟨w78, f78⟩ := q78
                    replace hC := hC.tr (w78.mono (by intro a k h; first | (dsimp only at h ⊢; omega) | omega | (dsimp only at h; omega) | (dsimp only; omega)))
                    refine lv_iconst (v := 1) hx hb dX8_sheet_84 (by decide) ?_
                    exact zz_iret hx hb hr hlocks hK hP hS dX8_sheet_85 (by exact ⟨hC, ⟨(hI.1.keep (fun k => hC _ _ (by first | (dsimp only; omega) | omega)) (fun k => hC _ _ (by first | (dsimp only; omega) | omega)) (fun j hj k => hC _ _ (by first | (dsimp only; omega) | omega)) (fun j hj f hf => hC _ _ (by first | (dsimp only; omega) | omega))), (hkI.keep (fun k => hC _ _ (by first | (dsimp only; omega) | omega)) (fun k => hC _ _ (by first | (dsimp only; omega) | omega)) (fun j hj k => hC _ _ (by first | (dsimp only; omega) | omega)) (fun j hj f hf => hC _ _ (by first | (dsimp only; omega) | omega))), (fun j hj => if hq : j = j76 then (by rw [hq, f78.2.1]; omega) else (by rw [w78 _ _ (by omega)]; exact hsh j hj)), (by rw [hC _ _ (by first | (dsimp only; omega) | omega)]; exact hspk)⟩, (by unfold zz_sheet; omega), (fun q => absurd q (by omega)), (fun _ => ⟨zz_HX.up q76 r76 (congrArg Int32.toInt f78.1) (fun j hj hn => w78 _ _ (by first | (dsimp only; omega) | omega)), zz_HX.up q76 r76 (by rw [f78.2.1, if_neg (by omega)]) (fun j hj hn => w78 _ _ (by first | (dsimp only; omega) | omega)), zz_CX.cz q76 r76 f78.2.2 (fun j hj hn k => w78 _ _ (by first | (dsimp only; omega) | omega))⟩)⟩)
                  · have c77 := zz_eqT c77
                    refine lv_iconst (v := 0) hx hb dX8_sheet_76 (by decide) ?_
                    refine lv_goto (tgt := 81) hx hb dX8_sheet_77 (by decide) ?_
                    skip
                    refine zz_callVv (As := [.int bi, .int 0]) (rest := []) ⟨hx, hb, hml, hown, hts⟩ hK hP hS (c_X3_renew l E σ (h0 + 68 + 2 * j76) bi 0 (g0.2.2.2.2.1 j76 r76)) (cwV 2 hts gX8_sheet_X3_renew rfl rfl rfl (by decide +kernel) ⟨Nat.le_of_ble_eq_true rfl, Nat.le_of_ble_eq_true rfl⟩) ((g0.2.2.2.2.1 j76 r76).1) rfl rfl hl.1 rfl (Nat.le_of_ble_eq_true rfl) dX8_sheet_81 ⟨Nat.zero_le _, Nat.zero_le _⟩ (fun σ79 H locs q79 hP1 hS1 => ?_)
                    replace hP := hP1
                    replace hS := hS1
                    clear hP1 hS1
                    try dsimp only at q79
                    obtain ⟨w79, f79⟩ := q79
                    replace hC := hC.tr (w79.mono (by intro a k h; first | (dsimp only at h ⊢; omega) | omega | (dsimp only at h; omega) | (dsimp only; omega)))
                    refine lv_iconst (v := 1) hx hb dX8_sheet_84 (by decide) ?_
                    exact zz_iret hx hb hr hlocks hK hP hS dX8_sheet_85 (by exact ⟨hC, ⟨(hI.1.keep (fun k => hC _ _ (by first | (dsimp only; omega) | omega)) (fun k => hC _ _ (by first | (dsimp only; omega) | omega)) (fun j hj k => hC _ _ (by first | (dsimp only; omega) | omega)) (fun j hj f hf => hC _ _ (by first | (dsimp only; omega) | omega))), (hkI.keep (fun k => hC _ _ (by first | (dsimp only; omega) | omega)) (fun k => hC _ _ (by first | (dsimp only; omega) | omega)) (fun j hj k => hC _ _ (by first | (dsimp only; omega) | omega)) (fun j hj f hf => hC _ _ (by first | (dsimp only; omega) | omega))), (fun j hj => if hq : j = j76 then (by rw [hq, f79.2.1]; omega) else (by rw [w79 _ _ (by omega)]; exact hsh j hj)), (by rw [hC _ _ (by first | (dsimp only; omega) | omega)]; exact hspk)⟩, (by unfold zz_sheet; omega), (fun q => absurd q (by omega)), (fun _ => ⟨zz_HX.up q76 r76 (congrArg Int32.toInt f79.1) (fun j hj hn => w79 _ _ (by first | (dsimp only; omega) | omega)), zz_HX.up q76 r76 (by rw [f79.2.1, if_pos (by omega)]; exact k_0) (fun j hj hn => w79 _ _ (by first | (dsimp only; omega) | omega)), zz_CX.cz q76 r76 f79.2.2 (fun j hj hn k => w79 _ _ (by first | (dsimp only; omega) | omega))⟩)⟩)
                · have c75 := zz_nleT c75
                  refine lv_aload_n hx hb dX8_sheet_59 rfl (lv_at hl 0 rfl) ?_
                  refine lv_iconst (v := 1) hx hb dX8_sheet_60 (by decide) ?_
                  refine zz_callVi (As := [.int 1]) (rest := []) ⟨hx, hb, hml, hown, hts⟩ hK hP hS (c_X8_refuse l E σ h0 1 g0 (by omega)) (cwV 1 hts gX8_sheet_X8_refuse rfl rfl rfl (by decide +kernel) ⟨Nat.le_of_ble_eq_true rfl, Nat.le_of_ble_eq_true rfl⟩) (g0.1) rfl rfl hl.1 rfl (Nat.le_of_ble_eq_true rfl) dX8_sheet_61 ⟨Nat.zero_le _, Nat.zero_le _⟩ (fun r80 σ80 H locs q80 hP1 hS1 => ?_)
                  replace hP := hP1
                  replace hS := hS1
                  clear hP1 hS1
                  try dsimp only at q80
                  obtain ⟨w80, f80⟩ := q80
                  replace hC := hC.tr (w80.mono (dS16_24 h0))
                  have hC0 := w80
                  exact zz_iret hx hb hr hlocks hK hP hS dX8_sheet_64 (by exact ⟨hC, (hI.soft (w80.mono (by intro a k h; omega))), (by unfold zz_sheet; omega), (fun _ => ⟨zz_HX.eq (fun j hj => hC0 _ _ (by first | (dsimp only; omega) | omega)), zz_HX.eq (fun j hj => hC0 _ _ (by first | (dsimp only; omega) | omega)), zz_CX.eq (fun j hj k hk => hC0 _ _ (by first | (dsimp only; omega) | omega))⟩), (fun q => absurd q (by omega))⟩)
            · have c69 := zz_nleT c69
              refine lv_aload_n hx hb dX8_sheet_43 rfl (lv_at hl 0 rfl) ?_
              refine lv_iconst (v := 3) hx hb dX8_sheet_44 (by decide) ?_
              refine zz_callVi (As := [.int 3]) (rest := []) ⟨hx, hb, hml, hown, hts⟩ hK hP hS (c_X8_refuse l E σ h0 3 g0 (by omega)) (cwV 1 hts gX8_sheet_X8_refuse rfl rfl rfl (by decide +kernel) ⟨Nat.le_of_ble_eq_true rfl, Nat.le_of_ble_eq_true rfl⟩) (g0.1) rfl rfl hl.1 rfl (Nat.le_of_ble_eq_true rfl) dX8_sheet_45 ⟨Nat.zero_le _, Nat.zero_le _⟩ (fun r81 σ81 H locs q81 hP1 hS1 => ?_)
              replace hP := hP1
              replace hS := hS1
              clear hP1 hS1
              try dsimp only at q81
              obtain ⟨w81, f81⟩ := q81
              replace hC := hC.tr (w81.mono (dS16_24 h0))
              have hC0 := w81
              exact zz_iret hx hb hr hlocks hK hP hS dX8_sheet_48 (by exact ⟨hC, (hI.soft (w81.mono (by intro a k h; omega))), (by unfold zz_sheet; omega), (fun _ => ⟨zz_HX.eq (fun j hj => hC0 _ _ (by first | (dsimp only; omega) | omega)), zz_HX.eq (fun j hj => hC0 _ _ (by first | (dsimp only; omega) | omega)), zz_CX.eq (fun j hj k hk => hC0 _ _ (by first | (dsimp only; omega) | omega))⟩), (fun q => absurd q (by omega))⟩)
        · have c56 := zz_neT c56
          refine lv_iload_n hx hb dX8_sheet_23 rfl (lv_at hl 2 rfl) ?_
          refine lv_bipush (v := 32) hx hb dX8_sheet_24 (by decide) ?_
          refine lv_icmp_eq (tgt := 35) hx hb dX8_sheet_26 (by decide) (fun c82 => ?_) (fun c82 => ?_)
          · have c82 := zz_eqT c82
            refine lv_iload_n hx hb dX8_sheet_35 rfl (lv_at hl 2 rfl) ?_
            refine lv_if_eq (tgt := 49) hx hb dX8_sheet_36 (by decide) (fun c83 => ?_) (fun c83 => ?_)
            · have c83 := zz_eqT c83
              refine lv_iload_n hx hb dX8_sheet_49 rfl (lv_at hl 2 rfl) ?_
              refine lv_if_eq (tgt := 65) hx hb dX8_sheet_50 (by decide) (fun c84 => ?_) (fun c84 => ?_)
              · have c84 := zz_eqT c84
                refine lv_aload_n hx hb dX8_sheet_65 rfl (lv_at hl 0 rfl) ?_
                refine zz_getr hx hb hts hi8 hown hK hP (g0.1) rfl 3 (by decide) (hts (.fieldLink RX8 21 "NoonLaw" "sheets" "[LNoonLaw$Sheet;") (List.mem_cons_of_mem _ bm_19)) rfl rfl dX8_sheet_66 ?_
                refine lv_iload_n hx hb dX8_sheet_69 rfl (lv_at hl 1 rfl) ?_
                refine zz_aald hx hb hK hP (g0.2.2.2.1) rfl (by omega) (by omega) dX8_sheet_70 (fun j85 q85 r85 => ?_)
                skip
                refine lv_iload_n hx hb dX8_sheet_71 rfl (lv_at hl 2 rfl) ?_
                refine lv_iload_n hx hb dX8_sheet_72 rfl (lv_at hl 2 rfl) ?_
                refine lv_if_ne (tgt := 80) hx hb dX8_sheet_73 (by decide) (fun c86 => ?_) (fun c86 => ?_)
                · have c86 := zz_neT c86
                  refine lv_iload_n hx hb dX8_sheet_80 rfl (lv_at hl 3 rfl) ?_
                  skip
                  refine zz_callVv (As := [.int bi, .int nn]) (rest := []) ⟨hx, hb, hml, hown, hts⟩ hK hP hS (c_X3_renew l E σ (h0 + 68 + 2 * j85) bi nn (g0.2.2.2.2.1 j85 r85)) (cwV 2 hts gX8_sheet_X3_renew rfl rfl rfl (by decide +kernel) ⟨Nat.le_of_ble_eq_true rfl, Nat.le_of_ble_eq_true rfl⟩) ((g0.2.2.2.2.1 j85 r85).1) rfl rfl hl.1 rfl (Nat.le_of_ble_eq_true rfl) dX8_sheet_81 ⟨Nat.zero_le _, Nat.zero_le _⟩ (fun σ87 H locs q87 hP1 hS1 => ?_)
                  replace hP := hP1
                  replace hS := hS1
                  clear hP1 hS1
                  try dsimp only at q87
                  obtain ⟨w87, f87⟩ := q87
                  replace hC := hC.tr (w87.mono (by intro a k h; first | (dsimp only at h ⊢; omega) | omega | (dsimp only at h; omega) | (dsimp only; omega)))
                  refine lv_iconst (v := 1) hx hb dX8_sheet_84 (by decide) ?_
                  exact zz_iret hx hb hr hlocks hK hP hS dX8_sheet_85 (by exact ⟨hC, ⟨(hI.1.keep (fun k => hC _ _ (by first | (dsimp only; omega) | omega)) (fun k => hC _ _ (by first | (dsimp only; omega) | omega)) (fun j hj k => hC _ _ (by first | (dsimp only; omega) | omega)) (fun j hj f hf => hC _ _ (by first | (dsimp only; omega) | omega))), (hkI.keep (fun k => hC _ _ (by first | (dsimp only; omega) | omega)) (fun k => hC _ _ (by first | (dsimp only; omega) | omega)) (fun j hj k => hC _ _ (by first | (dsimp only; omega) | omega)) (fun j hj f hf => hC _ _ (by first | (dsimp only; omega) | omega))), (fun j hj => if hq : j = j85 then (by rw [hq, f87.2.1]; omega) else (by rw [w87 _ _ (by omega)]; exact hsh j hj)), (by rw [hC _ _ (by first | (dsimp only; omega) | omega)]; exact hspk)⟩, (by unfold zz_sheet; omega), (fun q => absurd q (by omega)), (fun _ => ⟨zz_HX.up q85 r85 (congrArg Int32.toInt f87.1) (fun j hj hn => w87 _ _ (by first | (dsimp only; omega) | omega)), zz_HX.up q85 r85 (by rw [f87.2.1, if_neg (by omega)]) (fun j hj hn => w87 _ _ (by first | (dsimp only; omega) | omega)), zz_CX.cz q85 r85 f87.2.2 (fun j hj hn k => w87 _ _ (by first | (dsimp only; omega) | omega))⟩)⟩)
                · have c86 := zz_eqT c86
                  refine lv_iconst (v := 0) hx hb dX8_sheet_76 (by decide) ?_
                  refine lv_goto (tgt := 81) hx hb dX8_sheet_77 (by decide) ?_
                  skip
                  refine zz_callVv (As := [.int bi, .int 0]) (rest := []) ⟨hx, hb, hml, hown, hts⟩ hK hP hS (c_X3_renew l E σ (h0 + 68 + 2 * j85) bi 0 (g0.2.2.2.2.1 j85 r85)) (cwV 2 hts gX8_sheet_X3_renew rfl rfl rfl (by decide +kernel) ⟨Nat.le_of_ble_eq_true rfl, Nat.le_of_ble_eq_true rfl⟩) ((g0.2.2.2.2.1 j85 r85).1) rfl rfl hl.1 rfl (Nat.le_of_ble_eq_true rfl) dX8_sheet_81 ⟨Nat.zero_le _, Nat.zero_le _⟩ (fun σ88 H locs q88 hP1 hS1 => ?_)
                  replace hP := hP1
                  replace hS := hS1
                  clear hP1 hS1
                  try dsimp only at q88
                  obtain ⟨w88, f88⟩ := q88
                  replace hC := hC.tr (w88.mono (by intro a k h; first | (dsimp only at h ⊢; omega) | omega | (dsimp only at h; omega) | (dsimp only; omega)))
                  refine lv_iconst (v := 1) hx hb dX8_sheet_84 (by decide) ?_
                  exact zz_iret hx hb hr hlocks hK hP hS dX8_sheet_85 (by exact ⟨hC, ⟨(hI.1.keep (fun k => hC _ _ (by first | (dsimp only; omega) | omega)) (fun k => hC _ _ (by first | (dsimp only; omega) | omega)) (fun j hj k => hC _ _ (by first | (dsimp only; omega) | omega)) (fun j hj f hf => hC _ _ (by first | (dsimp only; omega) | omega))), (hkI.keep (fun k => hC _ _ (by first | (dsimp only; omega) | omega)) (fun k => hC _ _ (by first | (dsimp only; omega) | omega)) (fun j hj k => hC _ _ (by first | (dsimp only; omega) | omega)) (fun j hj f hf => hC _ _ (by first | (dsimp only; omega) | omega))), (fun j hj => if hq : j = j85 then (by rw [hq, f88.2.1]; omega) else (by rw [w88 _ _ (by omega)]; exact hsh j hj)), (by rw [hC _ _ (by first | (dsimp only; omega) | omega)]; exact hspk)⟩, (by unfold zz_sheet; omega), (fun q => absurd q (by omega)), (fun _ => ⟨zz_HX.up q85 r85 (congrArg Int32.toInt f88.1) (fun j hj hn => w88 _ _ (by first | (dsimp only; omega) | omega)), zz_HX.up q85 r85 (by rw [f88.2.1, if_pos (by omega)]; exact k_0) (fun j hj hn => w88 _ _ (by first | (dsimp only; omega) | omega)), zz_CX.cz q85 r85 f88.2.2 (fun j hj hn k => w88 _ _ (by first | (dsimp only; omega) | omega))⟩)⟩)
              · have c84 := zz_neT c84
                refine lv_iload_n hx hb dX8_sheet_53 rfl (lv_at hl 3 rfl) ?_
                refine lv_bipush (v := 24) hx hb dX8_sheet_54 (by decide) ?_
                refine lv_icmp_le (tgt := 65) hx hb dX8_sheet_56 (by decide) (fun c89 => ?_) (fun c89 => ?_)
                · have c89 := zz_leT c89
                  refine lv_aload_n hx hb dX8_sheet_65 rfl (lv_at hl 0 rfl) ?_
                  refine zz_getr hx hb hts hi8 hown hK hP (g0.1) rfl 3 (by decide) (hts (.fieldLink RX8 21 "NoonLaw" "sheets" "[LNoonLaw$Sheet;") (List.mem_cons_of_mem _ bm_19)) rfl rfl dX8_sheet_66 ?_
                  refine lv_iload_n hx hb dX8_sheet_69 rfl (lv_at hl 1 rfl) ?_
                  refine zz_aald hx hb hK hP (g0.2.2.2.1) rfl (by omega) (by omega) dX8_sheet_70 (fun j90 q90 r90 => ?_)
                  skip
                  refine lv_iload_n hx hb dX8_sheet_71 rfl (lv_at hl 2 rfl) ?_
                  refine lv_iload_n hx hb dX8_sheet_72 rfl (lv_at hl 2 rfl) ?_
                  refine lv_if_ne (tgt := 80) hx hb dX8_sheet_73 (by decide) (fun c91 => ?_) (fun c91 => ?_)
                  · have c91 := zz_neT c91
                    refine lv_iload_n hx hb dX8_sheet_80 rfl (lv_at hl 3 rfl) ?_
                    skip
                    refine zz_callVv (As := [.int bi, .int nn]) (rest := []) ⟨hx, hb, hml, hown, hts⟩ hK hP hS (c_X3_renew l E σ (h0 + 68 + 2 * j90) bi nn (g0.2.2.2.2.1 j90 r90)) (cwV 2 hts gX8_sheet_X3_renew rfl rfl rfl (by decide +kernel) ⟨Nat.le_of_ble_eq_true rfl, Nat.le_of_ble_eq_true rfl⟩) ((g0.2.2.2.2.1 j90 r90).1) rfl rfl hl.1 rfl (Nat.le_of_ble_eq_true rfl) dX8_sheet_81 ⟨Nat.zero_le _, Nat.zero_le _⟩ (fun σ92 H locs q92 hP1 hS1 => ?_)
                    replace hP := hP1
                    replace hS := hS1
                    clear hP1 hS1
                    try dsimp only at q92
                    obtain ⟨w92, f92⟩ := q92
                    replace hC := hC.tr (w92.mono (by intro a k h; first | (dsimp only at h ⊢; omega) | omega | (dsimp only at h; omega) | (dsimp only; omega)))
                    refine lv_iconst (v := 1) hx hb dX8_sheet_84 (by decide) ?_
                    exact zz_iret hx hb hr hlocks hK hP hS dX8_sheet_85 (by exact ⟨hC, ⟨(hI.1.keep (fun k => hC _ _ (by first | (dsimp only; omega) | omega)) (fun k => hC _ _ (by first | (dsimp only; omega) | omega)) (fun j hj k => hC _ _ (by first | (dsimp only; omega) | omega)) (fun j hj f hf => hC _ _ (by first | (dsimp only; omega) | omega))), (hkI.keep (fun k => hC _ _ (by first | (dsimp only; omega) | omega)) (fun k => hC _ _ (by first | (dsimp only; omega) | omega)) (fun j hj k => hC _ _ (by first | (dsimp only; omega) | omega)) (fun j hj f hf => hC _ _ (by first | (dsimp only; omega) | omega))), (fun j hj => if hq : j = j90 then (by rw [hq, f92.2.1]; omega) else (by rw [w92 _ _ (by omega)]; exact hsh j hj)), (by rw [hC _ _ (by first | (dsimp only; omega) | omega)]; exact hspk)⟩, (by unfold zz_sheet; omega), (fun q => absurd q (by omega)), (fun _ => ⟨zz_HX.up q90 r90 (congrArg Int32.toInt f92.1) (fun j hj hn => w92 _ _ (by first | (dsimp only; omega) | omega)), zz_HX.up q90 r90 (by rw [f92.2.1, if_neg (by omega)]) (fun j hj hn => w92 _ _ (by first | (dsimp only; omega) | omega)), zz_CX.cz q90 r90 f92.2.2 (fun j hj hn k => w92 _ _ (by first | (dsimp only; omega) | omega))⟩)⟩)
                  · have c91 := zz_eqT c91
                    refine lv_iconst (v := 0) hx hb dX8_sheet_76 (by decide) ?_
                    refine lv_goto (tgt := 81) hx hb dX8_sheet_77 (by decide) ?_
                    skip
                    refine zz_callVv (As := [.int bi, .int 0]) (rest := []) ⟨hx, hb, hml, hown, hts⟩ hK hP hS (c_X3_renew l E σ (h0 + 68 + 2 * j90) bi 0 (g0.2.2.2.2.1 j90 r90)) (cwV 2 hts gX8_sheet_X3_renew rfl rfl rfl (by decide +kernel) ⟨Nat.le_of_ble_eq_true rfl, Nat.le_of_ble_eq_true rfl⟩) ((g0.2.2.2.2.1 j90 r90).1) rfl rfl hl.1 rfl (Nat.le_of_ble_eq_true rfl) dX8_sheet_81 ⟨Nat.zero_le _, Nat.zero_le _⟩ (fun σ93 H locs q93 hP1 hS1 => ?_)
                    replace hP := hP1
                    replace hS := hS1
                    clear hP1 hS1
                    try dsimp only at q93
                    obtain ⟨w93, f93⟩ := q93
                    replace hC := hC.tr (w93.mono (by intro a k h; first | (dsimp only at h ⊢; omega) | omega | (dsimp only at h; omega) | (dsimp only; omega)))
                    refine lv_iconst (v := 1) hx hb dX8_sheet_84 (by decide) ?_
                    exact zz_iret hx hb hr hlocks hK hP hS dX8_sheet_85 (by exact ⟨hC, ⟨(hI.1.keep (fun k => hC _ _ (by first | (dsimp only; omega) | omega)) (fun k => hC _ _ (by first | (dsimp only; omega) | omega)) (fun j hj k => hC _ _ (by first | (dsimp only; omega) | omega)) (fun j hj f hf => hC _ _ (by first | (dsimp only; omega) | omega))), (hkI.keep (fun k => hC _ _ (by first | (dsimp only; omega) | omega)) (fun k => hC _ _ (by first | (dsimp only; omega) | omega)) (fun j hj k => hC _ _ (by first | (dsimp only; omega) | omega)) (fun j hj f hf => hC _ _ (by first | (dsimp only; omega) | omega))), (fun j hj => if hq : j = j90 then (by rw [hq, f93.2.1]; omega) else (by rw [w93 _ _ (by omega)]; exact hsh j hj)), (by rw [hC _ _ (by first | (dsimp only; omega) | omega)]; exact hspk)⟩, (by unfold zz_sheet; omega), (fun q => absurd q (by omega)), (fun _ => ⟨zz_HX.up q90 r90 (congrArg Int32.toInt f93.1) (fun j hj hn => w93 _ _ (by first | (dsimp only; omega) | omega)), zz_HX.up q90 r90 (by rw [f93.2.1, if_pos (by omega)]; exact k_0) (fun j hj hn => w93 _ _ (by first | (dsimp only; omega) | omega)), zz_CX.cz q90 r90 f93.2.2 (fun j hj hn k => w93 _ _ (by first | (dsimp only; omega) | omega))⟩)⟩)
                · have c89 := zz_nleT c89
                  refine lv_aload_n hx hb dX8_sheet_59 rfl (lv_at hl 0 rfl) ?_
                  refine lv_iconst (v := 1) hx hb dX8_sheet_60 (by decide) ?_
                  refine zz_callVi (As := [.int 1]) (rest := []) ⟨hx, hb, hml, hown, hts⟩ hK hP hS (c_X8_refuse l E σ h0 1 g0 (by omega)) (cwV 1 hts gX8_sheet_X8_refuse rfl rfl rfl (by decide +kernel) ⟨Nat.le_of_ble_eq_true rfl, Nat.le_of_ble_eq_true rfl⟩) (g0.1) rfl rfl hl.1 rfl (Nat.le_of_ble_eq_true rfl) dX8_sheet_61 ⟨Nat.zero_le _, Nat.zero_le _⟩ (fun r94 σ94 H locs q94 hP1 hS1 => ?_)
                  replace hP := hP1
                  replace hS := hS1
                  clear hP1 hS1
                  try dsimp only at q94
                  obtain ⟨w94, f94⟩ := q94
                  replace hC := hC.tr (w94.mono (dS16_24 h0))
                  have hC0 := w94
                  exact zz_iret hx hb hr hlocks hK hP hS dX8_sheet_64 (by exact ⟨hC, (hI.soft (w94.mono (by intro a k h; omega))), (by unfold zz_sheet; omega), (fun _ => ⟨zz_HX.eq (fun j hj => hC0 _ _ (by first | (dsimp only; omega) | omega)), zz_HX.eq (fun j hj => hC0 _ _ (by first | (dsimp only; omega) | omega)), zz_CX.eq (fun j hj k hk => hC0 _ _ (by first | (dsimp only; omega) | omega))⟩), (fun q => absurd q (by omega))⟩)
            · have c83 := zz_neT c83
              refine lv_iload_n hx hb dX8_sheet_39 rfl (lv_at hl 3 rfl) ?_
              refine lv_if_ge (tgt := 49) hx hb dX8_sheet_40 (by decide) (fun c95 => ?_) (fun c95 => ?_)
              · have c95 := zz_leT c95
                refine lv_iload_n hx hb dX8_sheet_49 rfl (lv_at hl 2 rfl) ?_
                refine lv_if_eq (tgt := 65) hx hb dX8_sheet_50 (by decide) (fun c96 => ?_) (fun c96 => ?_)
                · have c96 := zz_eqT c96
                  refine lv_aload_n hx hb dX8_sheet_65 rfl (lv_at hl 0 rfl) ?_
                  refine zz_getr hx hb hts hi8 hown hK hP (g0.1) rfl 3 (by decide) (hts (.fieldLink RX8 21 "NoonLaw" "sheets" "[LNoonLaw$Sheet;") (List.mem_cons_of_mem _ bm_19)) rfl rfl dX8_sheet_66 ?_
                  refine lv_iload_n hx hb dX8_sheet_69 rfl (lv_at hl 1 rfl) ?_
                  refine zz_aald hx hb hK hP (g0.2.2.2.1) rfl (by omega) (by omega) dX8_sheet_70 (fun j97 q97 r97 => ?_)
                  skip
                  refine lv_iload_n hx hb dX8_sheet_71 rfl (lv_at hl 2 rfl) ?_
                  refine lv_iload_n hx hb dX8_sheet_72 rfl (lv_at hl 2 rfl) ?_
                  refine lv_if_ne (tgt := 80) hx hb dX8_sheet_73 (by decide) (fun c98 => ?_) (fun c98 => ?_)
                  · have c98 := zz_neT c98
                    refine lv_iload_n hx hb dX8_sheet_80 rfl (lv_at hl 3 rfl) ?_
                    skip
                    refine zz_callVv (As := [.int bi, .int nn]) (rest := []) ⟨hx, hb, hml, hown, hts⟩ hK hP hS (c_X3_renew l E σ (h0 + 68 + 2 * j97) bi nn (g0.2.2.2.2.1 j97 r97)) (cwV 2 hts gX8_sheet_X3_renew rfl rfl rfl (by decide +kernel) ⟨Nat.le_of_ble_eq_true rfl, Nat.le_of_ble_eq_true rfl⟩) ((g0.2.2.2.2.1 j97 r97).1) rfl rfl hl.1 rfl (Nat.le_of_ble_eq_true rfl) dX8_sheet_81 ⟨Nat.zero_le _, Nat.zero_le _⟩ (fun σ99 H locs q99 hP1 hS1 => ?_)
                    replace hP := hP1
                    replace hS := hS1
                    clear hP1 hS1
                    try dsimp only at q99
                    obtain ⟨w99, f99⟩ := q99
                    replace hC := hC.tr (w99.mono (by intro a k h; first | (dsimp only at h ⊢; omega) | omega | (dsimp only at h; omega) | (dsimp only; omega)))
                    refine lv_iconst (v := 1) hx hb dX8_sheet_84 (by decide) ?_
                    exact zz_iret hx hb hr hlocks hK hP hS dX8_sheet_85 (by exact ⟨hC, ⟨(hI.1.keep (fun k => hC _ _ (by first | (dsimp only; omega) | omega)) (fun k => hC _ _ (by first | (dsimp only; omega) | omega)) (fun j hj k => hC _ _ (by first | (dsimp only; omega) | omega)) (fun j hj f hf => hC _ _ (by first | (dsimp only; omega) | omega))), (hkI.keep (fun k => hC _ _ (by first | (dsimp only; omega) | omega)) (fun k => hC _ _ (by first | (dsimp only; omega) | omega)) (fun j hj k => hC _ _ (by first | (dsimp only; omega) | omega)) (fun j hj f hf => hC _ _ (by first | (dsimp only; omega) | omega))), (fun j hj => if hq : j = j97 then (by rw [hq, f99.2.1]; omega) else (by rw [w99 _ _ (by omega)]; exact hsh j hj)), (by rw [hC _ _ (by first | (dsimp only; omega) | omega)]; exact hspk)⟩, (by unfold zz_sheet; omega), (fun q => absurd q (by omega)), (fun _ => ⟨zz_HX.up q97 r97 (congrArg Int32.toInt f99.1) (fun j hj hn => w99 _ _ (by first | (dsimp only; omega) | omega)), zz_HX.up q97 r97 (by rw [f99.2.1, if_neg (by omega)]) (fun j hj hn => w99 _ _ (by first | (dsimp only; omega) | omega)), zz_CX.cz q97 r97 f99.2.2 (fun j hj hn k => w99 _ _ (by first | (dsimp only; omega) | omega))⟩)⟩)
                  · have c98 := zz_eqT c98
                    refine lv_iconst (v := 0) hx hb dX8_sheet_76 (by decide) ?_
                    refine lv_goto (tgt := 81) hx hb dX8_sheet_77 (by decide) ?_
                    skip
                    refine zz_callVv (As := [.int bi, .int 0]) (rest := []) ⟨hx, hb, hml, hown, hts⟩ hK hP hS (c_X3_renew l E σ (h0 + 68 + 2 * j97) bi 0 (g0.2.2.2.2.1 j97 r97)) (cwV 2 hts gX8_sheet_X3_renew rfl rfl rfl (by decide +kernel) ⟨Nat.le_of_ble_eq_true rfl, Nat.le_of_ble_eq_true rfl⟩) ((g0.2.2.2.2.1 j97 r97).1) rfl rfl hl.1 rfl (Nat.le_of_ble_eq_true rfl) dX8_sheet_81 ⟨Nat.zero_le _, Nat.zero_le _⟩ (fun σ100 H locs q100 hP1 hS1 => ?_)
                    replace hP := hP1
                    replace hS := hS1
                    clear hP1 hS1
                    try dsimp only at q100
                    obtain ⟨w100, f100⟩ := q100
                    replace hC := hC.tr (w100.mono (by intro a k h; first | (dsimp only at h ⊢; omega) | omega | (dsimp only at h; omega) | (dsimp only; omega)))
                    refine lv_iconst (v := 1) hx hb dX8_sheet_84 (by decide) ?_
                    exact zz_iret hx hb hr hlocks hK hP hS dX8_sheet_85 (by exact ⟨hC, ⟨(hI.1.keep (fun k => hC _ _ (by first | (dsimp only; omega) | omega)) (fun k => hC _ _ (by first | (dsimp only; omega) | omega)) (fun j hj k => hC _ _ (by first | (dsimp only; omega) | omega)) (fun j hj f hf => hC _ _ (by first | (dsimp only; omega) | omega))), (hkI.keep (fun k => hC _ _ (by first | (dsimp only; omega) | omega)) (fun k => hC _ _ (by first | (dsimp only; omega) | omega)) (fun j hj k => hC _ _ (by first | (dsimp only; omega) | omega)) (fun j hj f hf => hC _ _ (by first | (dsimp only; omega) | omega))), (fun j hj => if hq : j = j97 then (by rw [hq, f100.2.1]; omega) else (by rw [w100 _ _ (by omega)]; exact hsh j hj)), (by rw [hC _ _ (by first | (dsimp only; omega) | omega)]; exact hspk)⟩, (by unfold zz_sheet; omega), (fun q => absurd q (by omega)), (fun _ => ⟨zz_HX.up q97 r97 (congrArg Int32.toInt f100.1) (fun j hj hn => w100 _ _ (by first | (dsimp only; omega) | omega)), zz_HX.up q97 r97 (by rw [f100.2.1, if_pos (by omega)]; exact k_0) (fun j hj hn => w100 _ _ (by first | (dsimp only; omega) | omega)), zz_CX.cz q97 r97 f100.2.2 (fun j hj hn k => w100 _ _ (by first | (dsimp only; omega) | omega))⟩)⟩)
                · have c96 := zz_neT c96
                  refine lv_iload_n hx hb dX8_sheet_53 rfl (lv_at hl 3 rfl) ?_
                  refine lv_bipush (v := 24) hx hb dX8_sheet_54 (by decide) ?_
                  refine lv_icmp_le (tgt := 65) hx hb dX8_sheet_56 (by decide) (fun c101 => ?_) (fun c101 => ?_)
                  · have c101 := zz_leT c101
                    refine lv_aload_n hx hb dX8_sheet_65 rfl (lv_at hl 0 rfl) ?_
                    refine zz_getr hx hb hts hi8 hown hK hP (g0.1) rfl 3 (by decide) (hts (.fieldLink RX8 21 "NoonLaw" "sheets" "[LNoonLaw$Sheet;") (List.mem_cons_of_mem _ bm_19)) rfl rfl dX8_sheet_66 ?_
                    refine lv_iload_n hx hb dX8_sheet_69 rfl (lv_at hl 1 rfl) ?_
                    refine zz_aald hx hb hK hP (g0.2.2.2.1) rfl (by omega) (by omega) dX8_sheet_70 (fun j102 q102 r102 => ?_)
                    skip
                    refine lv_iload_n hx hb dX8_sheet_71 rfl (lv_at hl 2 rfl) ?_
                    refine lv_iload_n hx hb dX8_sheet_72 rfl (lv_at hl 2 rfl) ?_
                    refine lv_if_ne (tgt := 80) hx hb dX8_sheet_73 (by decide) (fun c103 => ?_) (fun c103 => ?_)
                    · have c103 := zz_neT c103
                      refine lv_iload_n hx hb dX8_sheet_80 rfl (lv_at hl 3 rfl) ?_
                      skip
                      refine zz_callVv (As := [.int bi, .int nn]) (rest := []) ⟨hx, hb, hml, hown, hts⟩ hK hP hS (c_X3_renew l E σ (h0 + 68 + 2 * j102) bi nn (g0.2.2.2.2.1 j102 r102)) (cwV 2 hts gX8_sheet_X3_renew rfl rfl rfl (by decide +kernel) ⟨Nat.le_of_ble_eq_true rfl, Nat.le_of_ble_eq_true rfl⟩) ((g0.2.2.2.2.1 j102 r102).1) rfl rfl hl.1 rfl (Nat.le_of_ble_eq_true rfl) dX8_sheet_81 ⟨Nat.zero_le _, Nat.zero_le _⟩ (fun σ104 H locs q104 hP1 hS1 => ?_)
                      replace hP := hP1
                      replace hS := hS1
                      clear hP1 hS1
                      try dsimp only at q104
                      obtain ⟨w104, f104⟩ := q104
                      replace hC := hC.tr (w104.mono (by intro a k h; first | (dsimp only at h ⊢; omega) | omega | (dsimp only at h; omega) | (dsimp only; omega)))
                      refine lv_iconst (v := 1) hx hb dX8_sheet_84 (by decide) ?_
                      exact zz_iret hx hb hr hlocks hK hP hS dX8_sheet_85 (by exact ⟨hC, ⟨(hI.1.keep (fun k => hC _ _ (by first | (dsimp only; omega) | omega)) (fun k => hC _ _ (by first | (dsimp only; omega) | omega)) (fun j hj k => hC _ _ (by first | (dsimp only; omega) | omega)) (fun j hj f hf => hC _ _ (by first | (dsimp only; omega) | omega))), (hkI.keep (fun k => hC _ _ (by first | (dsimp only; omega) | omega)) (fun k => hC _ _ (by first | (dsimp only; omega) | omega)) (fun j hj k => hC _ _ (by first | (dsimp only; omega) | omega)) (fun j hj f hf => hC _ _ (by first | (dsimp only; omega) | omega))), (fun j hj => if hq : j = j102 then (by rw [hq, f104.2.1]; omega) else (by rw [w104 _ _ (by omega)]; exact hsh j hj)), (by rw [hC _ _ (by first | (dsimp only; omega) | omega)]; exact hspk)⟩, (by unfold zz_sheet; omega), (fun q => absurd q (by omega)), (fun _ => ⟨zz_HX.up q102 r102 (congrArg Int32.toInt f104.1) (fun j hj hn => w104 _ _ (by first | (dsimp only; omega) | omega)), zz_HX.up q102 r102 (by rw [f104.2.1, if_neg (by omega)]) (fun j hj hn => w104 _ _ (by first | (dsimp only; omega) | omega)), zz_CX.cz q102 r102 f104.2.2 (fun j hj hn k => w104 _ _ (by first | (dsimp only; omega) | omega))⟩)⟩)
                    · have c103 := zz_eqT c103
                      refine lv_iconst (v := 0) hx hb dX8_sheet_76 (by decide) ?_
                      refine lv_goto (tgt := 81) hx hb dX8_sheet_77 (by decide) ?_
                      skip
                      refine zz_callVv (As := [.int bi, .int 0]) (rest := []) ⟨hx, hb, hml, hown, hts⟩ hK hP hS (c_X3_renew l E σ (h0 + 68 + 2 * j102) bi 0 (g0.2.2.2.2.1 j102 r102)) (cwV 2 hts gX8_sheet_X3_renew rfl rfl rfl (by decide +kernel) ⟨Nat.le_of_ble_eq_true rfl, Nat.le_of_ble_eq_true rfl⟩) ((g0.2.2.2.2.1 j102 r102).1) rfl rfl hl.1 rfl (Nat.le_of_ble_eq_true rfl) dX8_sheet_81 ⟨Nat.zero_le _, Nat.zero_le _⟩ (fun σ105 H locs q105 hP1 hS1 => ?_)
                      replace hP := hP1
                      replace hS := hS1
                      clear hP1 hS1
                      try dsimp only at q105
                      obtain ⟨w105, f105⟩ := q105
                      replace hC := hC.tr (w105.mono (by intro a k h; first | (dsimp only at h ⊢; omega) | omega | (dsimp only at h; omega) | (dsimp only; omega)))
                      refine lv_iconst (v := 1) hx hb dX8_sheet_84 (by decide) ?_
                      exact zz_iret hx hb hr hlocks hK hP hS dX8_sheet_85 (by exact ⟨hC, ⟨(hI.1.keep (fun k => hC _ _ (by first | (dsimp only; omega) | omega)) (fun k => hC _ _ (by first | (dsimp only; omega) | omega)) (fun j hj k => hC _ _ (by first | (dsimp only; omega) | omega)) (fun j hj f hf => hC _ _ (by first | (dsimp only; omega) | omega))), (hkI.keep (fun k => hC _ _ (by first | (dsimp only; omega) | omega)) (fun k => hC _ _ (by first | (dsimp only; omega) | omega)) (fun j hj k => hC _ _ (by first | (dsimp only; omega) | omega)) (fun j hj f hf => hC _ _ (by first | (dsimp only; omega) | omega))), (fun j hj => if hq : j = j102 then (by rw [hq, f105.2.1]; omega) else (by rw [w105 _ _ (by omega)]; exact hsh j hj)), (by rw [hC _ _ (by first | (dsimp only; omega) | omega)]; exact hspk)⟩, (by unfold zz_sheet; omega), (fun q => absurd q (by omega)), (fun _ => ⟨zz_HX.up q102 r102 (congrArg Int32.toInt f105.1) (fun j hj hn => w105 _ _ (by first | (dsimp only; omega) | omega)), zz_HX.up q102 r102 (by rw [f105.2.1, if_pos (by omega)]; exact k_0) (fun j hj hn => w105 _ _ (by first | (dsimp only; omega) | omega)), zz_CX.cz q102 r102 f105.2.2 (fun j hj hn k => w105 _ _ (by first | (dsimp only; omega) | omega))⟩)⟩)
                  · have c101 := zz_nleT c101
                    refine lv_aload_n hx hb dX8_sheet_59 rfl (lv_at hl 0 rfl) ?_
                    refine lv_iconst (v := 1) hx hb dX8_sheet_60 (by decide) ?_
                    refine zz_callVi (As := [.int 1]) (rest := []) ⟨hx, hb, hml, hown, hts⟩ hK hP hS (c_X8_refuse l E σ h0 1 g0 (by omega)) (cwV 1 hts gX8_sheet_X8_refuse rfl rfl rfl (by decide +kernel) ⟨Nat.le_of_ble_eq_true rfl, Nat.le_of_ble_eq_true rfl⟩) (g0.1) rfl rfl hl.1 rfl (Nat.le_of_ble_eq_true rfl) dX8_sheet_61 ⟨Nat.zero_le _, Nat.zero_le _⟩ (fun r106 σ106 H locs q106 hP1 hS1 => ?_)
                    replace hP := hP1
                    replace hS := hS1
                    clear hP1 hS1
                    try dsimp only at q106
                    obtain ⟨w106, f106⟩ := q106
                    replace hC := hC.tr (w106.mono (dS16_24 h0))
                    have hC0 := w106
                    exact zz_iret hx hb hr hlocks hK hP hS dX8_sheet_64 (by exact ⟨hC, (hI.soft (w106.mono (by intro a k h; omega))), (by unfold zz_sheet; omega), (fun _ => ⟨zz_HX.eq (fun j hj => hC0 _ _ (by first | (dsimp only; omega) | omega)), zz_HX.eq (fun j hj => hC0 _ _ (by first | (dsimp only; omega) | omega)), zz_CX.eq (fun j hj k hk => hC0 _ _ (by first | (dsimp only; omega) | omega))⟩), (fun q => absurd q (by omega))⟩)
              · have c95 := zz_nleT c95
                refine lv_aload_n hx hb dX8_sheet_43 rfl (lv_at hl 0 rfl) ?_
                refine lv_iconst (v := 3) hx hb dX8_sheet_44 (by decide) ?_
                refine zz_callVi (As := [.int 3]) (rest := []) ⟨hx, hb, hml, hown, hts⟩ hK hP hS (c_X8_refuse l E σ h0 3 g0 (by omega)) (cwV 1 hts gX8_sheet_X8_refuse rfl rfl rfl (by decide +kernel) ⟨Nat.le_of_ble_eq_true rfl, Nat.le_of_ble_eq_true rfl⟩) (g0.1) rfl rfl hl.1 rfl (Nat.le_of_ble_eq_true rfl) dX8_sheet_45 ⟨Nat.zero_le _, Nat.zero_le _⟩ (fun r107 σ107 H locs q107 hP1 hS1 => ?_)
                replace hP := hP1
                replace hS := hS1
                clear hP1 hS1
                try dsimp only at q107
                obtain ⟨w107, f107⟩ := q107
                replace hC := hC.tr (w107.mono (dS16_24 h0))
                have hC0 := w107
                exact zz_iret hx hb hr hlocks hK hP hS dX8_sheet_48 (by exact ⟨hC, (hI.soft (w107.mono (by intro a k h; omega))), (by unfold zz_sheet; omega), (fun _ => ⟨zz_HX.eq (fun j hj => hC0 _ _ (by first | (dsimp only; omega) | omega)), zz_HX.eq (fun j hj => hC0 _ _ (by first | (dsimp only; omega) | omega)), zz_CX.eq (fun j hj k hk => hC0 _ _ (by first | (dsimp only; omega) | omega))⟩), (fun q => absurd q (by omega))⟩)
          · have c82 := zz_neT c82
            refine lv_aload_n hx hb dX8_sheet_29 rfl (lv_at hl 0 rfl) ?_
            refine lv_iconst (v := 1) hx hb dX8_sheet_30 (by decide) ?_
            refine zz_callVi (As := [.int 1]) (rest := []) ⟨hx, hb, hml, hown, hts⟩ hK hP hS (c_X8_refuse l E σ h0 1 g0 (by omega)) (cwV 1 hts gX8_sheet_X8_refuse rfl rfl rfl (by decide +kernel) ⟨Nat.le_of_ble_eq_true rfl, Nat.le_of_ble_eq_true rfl⟩) (g0.1) rfl rfl hl.1 rfl (Nat.le_of_ble_eq_true rfl) dX8_sheet_31 ⟨Nat.zero_le _, Nat.zero_le _⟩ (fun r108 σ108 H locs q108 hP1 hS1 => ?_)
            replace hP := hP1
            replace hS := hS1
            clear hP1 hS1
            try dsimp only at q108
            obtain ⟨w108, f108⟩ := q108
            replace hC := hC.tr (w108.mono (dS16_24 h0))
            have hC0 := w108
            exact zz_iret hx hb hr hlocks hK hP hS dX8_sheet_34 (by exact ⟨hC, (hI.soft (w108.mono (by intro a k h; omega))), (by unfold zz_sheet; omega), (fun _ => ⟨zz_HX.eq (fun j hj => hC0 _ _ (by first | (dsimp only; omega) | omega)), zz_HX.eq (fun j hj => hC0 _ _ (by first | (dsimp only; omega) | omega)), zz_CX.eq (fun j hj k hk => hC0 _ _ (by first | (dsimp only; omega) | omega))⟩), (fun q => absurd q (by omega))⟩)
