theorem gX8_text_X8_isUse : GoodIn wzX8_text (va_wsS RX8 157 yX8_isUse wzX8_isUse) := wz_co bm_443 (wz_co bm_444 (wz_co bm_2 (wz_in bm_445)))
theorem gX8_text_X8_refuse : GoodIn wzX8_text (wsV RX8 68 RX8 yX8_refuse wzX8_refuse) := wz_co bm_118 (wz_co bm_119 (wz_co bm_120 (wz_co bm_2 (wz_in bm_121))))
theorem gX8_text_X7_readsWhole : GoodIn wzX8_text (wsV RX8 160 RX7 yX7_readsWhole wzX7_readsWhole) := wz_co bm_446 (wz_co bm_447 (wz_co bm_448 (wz_co bm_26 (wz_in bm_449))))
theorem gX8_text_X6_take : GoodIn wzX8_text (wsV RX8 177 RX6 yX6_take wzX6_take) := wz_co bm_498 (wz_co bm_499 (wz_co bm_500 (wz_co bm_58 (wz_in bm_501))))
theorem dS17_1 (x0 : Nat) : ∀ a k : Nat, (a = (x0 + 58) ∨ a = (x0 + 58) + 1 ∨ a = (x0 + 58) + 2) → (a = x0 + 24 ∨ a = x0 + 27 ∨ (x0 + 58 ≤ a ∧ a ≤ x0 + 67) ∨ (a = x0 + 1 ∧ k = 9) ∨ a = x0 + 22 ∨ a = x0 + 23 ∨ a = x0 + 25 ∨ a = x0 + 26) := by intro a k h; omega
theorem dS17_2 (x0 : Nat) : ¬ ((x0 + 1) = (x0 + 58) ∨ (x0 + 1) = (x0 + 58) + 1 ∨ (x0 + 1) = (x0 + 58) + 2) := by omega
theorem dS17_3 (x0 : Nat) : (x0 + 1) = x0 + 24 ∨ (x0 + 1) = x0 + 27 ∨ (x0 + 58 ≤ (x0 + 1) ∧ (x0 + 1) ≤ x0 + 67) ∨ ((x0 + 1) = x0 + 1 ∧ (9) = 9) ∨ (x0 + 1) = x0 + 22 ∨ (x0 + 1) = x0 + 23 ∨ (x0 + 1) = x0 + 25 ∨ (x0 + 1) = x0 + 26 := by omega
theorem dS17_4 (x0 : Nat) : ∀ a k : Nat, (a = (x0) + 65) → (a = x0 + 24 ∨ a = x0 + 27 ∨ (x0 + 58 ≤ a ∧ a ≤ x0 + 67) ∨ (a = x0 + 1 ∧ k = 9) ∨ a = x0 + 22 ∨ a = x0 + 23 ∨ a = x0 + 25 ∨ a = x0 + 26) := by intro a k h; omega
theorem dS17_5 (x0 : Nat) : ¬ ((x0 + 1) = (x0) + 65) := by omega
set_option maxHeartbeats 4000000 in
set_option maxRecDepth 100000 in
theorem c_X8_text (l : Launch) (E : zz_E) (σ : zz_S) (h0 : Nat) (use : Int32) (g0 : zz_L E h0) (hI : zz_IX σ h0) : Met l yX8_text wzX8_text ({ frames := 68, cells := 0, slots := 0, locals := 3708 }) (va_Pc [.ref h0, .int use] (zz_B E σ)) (va_Qi (fun r σ1 => zz_ch (fun a k => a = h0 + 24 ∨ a = h0 + 27 ∨ (h0 + 58 ≤ a ∧ a ≤ h0 + 67) ∨ (a = h0 + 1 ∧ k = 9) ∨ a = h0 + 22 ∨ a = h0 + 23 ∨ a = h0 + 25 ∨ a = h0 + 26) σ σ1 ∧ (zz_IX σ1 h0 ∧ (((use.toInt < 0 ∨ 1 < use.toInt) ∧ (σ1 (h0 + 1) 9).toInt = (σ (h0 + 1) 9).toInt ∧ r.toInt = -1000000001 ∧ zz_XT σ1 (h0 + 1) = zz_XT σ (h0 + 1) ∧ zz_Tp σ1 (h0 + 1 + 4) (σ1 (h0 + 1) 9).toInt = zz_Tp σ (h0 + 1 + 4) (σ (h0 + 1) 9).toInt) ∨ (0 ≤ use.toInt ∧ use.toInt ≤ 1 ∧ (σ1 (h0 + 1) 9).toInt = 0 ∧ zz_tx (zz_PQ (zz_Tp σ (h0 + 1 + 4) (σ (h0 + 1) 9).toInt) use.toInt 0) (σ (h0 + 1) 9).toInt r.toInt (zz_XT σ (h0 + 1)) (zz_XT σ1 (h0 + 1)) use.toInt)))) (zz_B E) (zz_A E)) 0 0 (zz_A E) := by
  refine zz_met (cc := cX8_text) (maxL := 3) (ret := (some .int)) (by decide) rfl (Nat.le_of_ble_eq_true rfl) ?_
  intro p e s m args below meth c ls hx hb hr hts hown hlocks hml hK hP hS hl
  have hl : lv_has ls 3 [(0, .ref h0), (1, .int use)] := hl
  have hown : s.vm.findClass RX8 = some m.cls := hown
  have hi2 : ∀ w ∈ wsX20, w ∈ wzX8_text := fun w h => List.mem_cons_of_mem _ (hbw2 w h)
  have hi7 : ∀ w ∈ wsX70, w ∈ wzX8_text := fun w h => List.mem_cons_of_mem _ (hbw7 w h)
  have hi8 : ∀ w ∈ wsX80, w ∈ wzX8_text := fun w h => List.mem_cons_of_mem _ (hbw8 w h)
  have k_m10 : ((-10) : Int32).toInt = -10 := by decide +kernel
  have k_0 : (0 : Int32).toInt = 0 := by decide +kernel
  have k_1 : (1 : Int32).toInt = 1 := by decide +kernel
  replace t0 : σ (h0 + 1) 0 = σ (h0 + 1) 0 := rfl
  replace t1 : σ (h0 + 1) 1 = σ (h0 + 1) 1 := rfl
  replace t2 : σ (h0 + 1) 4 = σ (h0 + 1) 4 := rfl
  replace t3 : σ (h0 + 1) 6 = σ (h0 + 1) 6 := rfl
  replace t4 : σ (h0 + 1) 9 = σ (h0 + 1) 9 := rfl
  replace t5 : σ (h0 + 1) 11 = σ (h0 + 1) 11 := rfl
  replace t6 : σ (h0 + 1) 2 = σ (h0 + 1) 2 := rfl
  have hC : zz_ch (fun a k => a = h0 + 24 ∨ a = h0 + 27 ∨ (h0 + 58 ≤ a ∧ a ≤ h0 + 67) ∨ (a = h0 + 1 ∧ k = 9) ∨ a = h0 + 22 ∨ a = h0 + 23 ∨ a = h0 + 25 ∨ a = h0 + 26) σ σ := zz_ch.rf σ
  obtain ⟨⟨hh, hsl, hd, hp, htc, hwc, ht, hft, hst, hid⟩, hkI, hsh, hspk⟩ := id hI
  refine lv_iload_n hx hb dX8_text_0 rfl (lv_at hl 1 rfl) ?_
  refine zz_callSp (As := [.int use]) (rest := []) ⟨hx, hb, hml, hown, hts⟩ hK hP hS (c_X8_isUse l E σ use) (va_cwS 1 hts gX8_text_X8_isUse rfl rfl rfl (by decide +kernel) ⟨Nat.le_of_ble_eq_true rfl, Nat.le_of_ble_eq_true rfl⟩) rfl hl.1 rfl (Nat.le_of_ble_eq_true rfl) dX8_text_1 ⟨Nat.zero_le _, Nat.zero_le _⟩ (fun r1 H locs f1 hP1 hS1 => ?_)
  replace hP := hP1
  replace hS := hS1
  clear hP1 hS1
  refine lv_if_ne (tgt := 13) hx hb dX8_text_4 (by decide) (fun c2 => ?_) (fun c2 => ?_)
  · have c2 := zz_neT c2
    refine lv_aload_n hx hb dX8_text_13 rfl (lv_at hl 0 rfl) ?_
    refine zz_getr hx hb hts hi8 hown hK hP (g0.1) rfl 5 (by decide) (hts (.fieldLink RX8 35 "NoonLaw" "reader" "LNoonLaw$TextReader;") (List.mem_cons_of_mem _ bm_27)) rfl rfl dX8_text_14 ?_
    refine lv_aload_n hx hb dX8_text_17 rfl (lv_at hl 0 rfl) ?_
    refine zz_getr hx hb hts hi8 hown hK hP (g0.1) rfl 0 (by decide) (hts (.fieldLink RX8 10 "NoonLaw" "realm" "LNoonLaw$Realm;") (List.mem_cons_of_mem _ bm_16)) rfl rfl dX8_text_18 ?_
    refine zz_getr hx hb hts hi2 hown hK hP (g0.2.1.1) rfl 8 (by decide) (hts (.fieldLink RX8 153 "NoonLaw$Realm" "tape" "[B") (List.mem_cons_of_mem _ bm_429)) rfl rfl dX8_text_21 ?_
    refine lv_aload_n hx hb dX8_text_24 rfl (lv_at hl 0 rfl) ?_
    refine zz_getr hx hb hts hi8 hown hK hP (g0.1) rfl 0 (by decide) (hts (.fieldLink RX8 10 "NoonLaw" "realm" "LNoonLaw$Realm;") (List.mem_cons_of_mem _ bm_16)) rfl rfl dX8_text_25 ?_
    refine zz_geti hx hb hts hi2 hown hK hP (g0.2.1.1) rfl 9 (by decide) (hts (.fieldLink RX8 150 "NoonLaw$Realm" "tapeCount" "I") (List.mem_cons_of_mem _ bm_428)) rfl rfl t4 dX8_text_28 ?_
    refine lv_iload_n hx hb dX8_text_31 rfl (lv_at hl 1 rfl) ?_
    refine zz_callVi (As := [.ref ((h0 + 1) + 4), .int (σ (h0 + 1) 9), .int use]) (rest := []) ⟨hx, hb, hml, hown, hts⟩ hK hP hS (c_X7_readsWhole l E σ (h0 + 58) ((h0 + 1) + 4) (σ (h0 + 1) 9) use (g0.2.2.2.2.2.2.1) (g0.2.1.2.2.2.2.1) (by exact hft) (by omega) (by exact htc) (by omega)) (cwV 3 hts gX8_text_X7_readsWhole rfl rfl rfl (by decide +kernel) ⟨Nat.le_of_ble_eq_true rfl, Nat.le_of_ble_eq_true rfl⟩) (g0.2.2.2.2.2.2.1.1) rfl rfl hl.1 rfl (Nat.le_of_ble_eq_true rfl) dX8_text_32 ⟨Nat.zero_le _, Nat.zero_le _⟩ (fun r3 σ3 H locs q3 hP1 hS1 => ?_)
    replace hP := hP1
    replace hS := hS1
    clear hP1 hS1
    try dsimp only at q3
    obtain ⟨w3, f3⟩ := q3
    replace hC := hC.tr (w3.mono (dS17_1 h0))
    replace t0 : σ3 (h0 + 1) 0 = σ (h0 + 1) 0 := (w3 (h0 + 1) 0 (dS17_2 h0)).trans t0
    replace t1 : σ3 (h0 + 1) 1 = σ (h0 + 1) 1 := (w3 (h0 + 1) 1 (dS17_2 h0)).trans t1
    replace t2 : σ3 (h0 + 1) 4 = σ (h0 + 1) 4 := (w3 (h0 + 1) 4 (dS17_2 h0)).trans t2
    replace t3 : σ3 (h0 + 1) 6 = σ (h0 + 1) 6 := (w3 (h0 + 1) 6 (dS17_2 h0)).trans t3
    replace t4 : σ3 (h0 + 1) 9 = σ (h0 + 1) 9 := (w3 (h0 + 1) 9 (dS17_2 h0)).trans t4
    replace t5 : σ3 (h0 + 1) 11 = σ (h0 + 1) 11 := (w3 (h0 + 1) 11 (dS17_2 h0)).trans t5
    replace t6 : σ3 (h0 + 1) 2 = σ (h0 + 1) 2 := (w3 (h0 + 1) 2 (dS17_2 h0)).trans t6
    refine lv_istore_n (lv' := [(2, .int r3), (0, .ref h0), (1, .int use)]) hx hb dX8_text_35 rfl hl (by decide) rfl (fun ls hl => ?_)
    refine lv_aload_n hx hb dX8_text_36 rfl (lv_at hl 1 rfl) ?_
    refine zz_getr hx hb hts hi8 hown hK hP (g0.1) rfl 0 (by decide) (hts (.fieldLink RX8 10 "NoonLaw" "realm" "LNoonLaw$Realm;") (List.mem_cons_of_mem _ bm_16)) rfl rfl dX8_text_37 ?_
    refine lv_iconst (v := 0) hx hb dX8_text_40 (by decide) ?_
    refine zz_puti (v := 0) (ty := .int) hx hb hts hi2 tyX2 tyX2_ok nmX2 hown hK hP hS (g0.2.1.1) rfl 9 (by decide) (hts (.fieldLink RX8 150 "NoonLaw$Realm" "tapeCount" "I") (List.mem_cons_of_mem _ bm_428)) rfl rfl (by decide +kernel) rfl rfl rfl dX8_text_41 (fun σ4 H locs w4 hP1 hS1 => ?_)
    replace hP := hP1
    replace hS := hS1
    clear hP1 hS1
    replace hC := hC.u w4 (dS17_3 h0)
    replace t0 : σ4 (h0 + 1) 0 = σ (h0 + 1) 0 := (zz_w (b := (h0 + 1)) (j := 0) w4 (fun q9 => absurd q9.2 (by decide))).trans t0
    replace t1 : σ4 (h0 + 1) 1 = σ (h0 + 1) 1 := (zz_w (b := (h0 + 1)) (j := 1) w4 (fun q9 => absurd q9.2 (by decide))).trans t1
    replace t2 : σ4 (h0 + 1) 4 = σ (h0 + 1) 4 := (zz_w (b := (h0 + 1)) (j := 4) w4 (fun q9 => absurd q9.2 (by decide))).trans t2
    replace t3 : σ4 (h0 + 1) 6 = σ (h0 + 1) 6 := (zz_w (b := (h0 + 1)) (j := 6) w4 (fun q9 => absurd q9.2 (by decide))).trans t3
    replace t4 : σ4 (h0 + 1) 9 = 0 := zz_w1 w4
    replace t5 : σ4 (h0 + 1) 11 = σ (h0 + 1) 11 := (zz_w (b := (h0 + 1)) (j := 11) w4 (fun q9 => absurd q9.2 (by decide))).trans t5
    replace t6 : σ4 (h0 + 1) 2 = σ (h0 + 1) 2 := (zz_w (b := (h0 + 1)) (j := 2) w4 (fun q9 => absurd q9.2 (by decide))).trans t6
    refine lv_iload_n hx hb dX8_text_44 rfl (lv_at hl 0 rfl) ?_
    refine lv_if_ne (tgt := 59) hx hb dX8_text_45 (by decide) (fun c5 => ?_) (fun c5 => ?_)
    · have c5 := zz_neT c5
      refine lv_aload_n hx hb dX8_text_59 rfl (lv_at hl 1 rfl) ?_
      refine zz_getr hx hb hts hi8 hown hK hP (g0.1) rfl 0 (by decide) (hts (.fieldLink RX8 10 "NoonLaw" "realm" "LNoonLaw$Realm;") (List.mem_cons_of_mem _ bm_16)) rfl rfl dX8_text_60 ?_
      refine zz_getr hx hb hts hi2 hown hK hP (g0.2.1.1) rfl 7 (by decide) (hts (.fieldLink RX8 167 "NoonLaw$Realm" "texts" "[LNoonLaw$Text;") (List.mem_cons_of_mem _ bm_440)) rfl rfl dX8_text_63 ?_
      refine lv_iload_n hx hb dX8_text_66 rfl (lv_at hl 2 rfl) ?_
      refine zz_aald hx hb hK hP (g0.2.1.2.2.2.1) rfl (by omega) (by omega) dX8_text_67 (fun j6 q6 r6 => ?_)
      skip
      refine lv_aload_n hx hb dX8_text_68 rfl (lv_at hl 1 rfl) ?_
      refine zz_getr hx hb hts hi8 hown hK hP (g0.1) rfl 5 (by decide) (hts (.fieldLink RX8 35 "NoonLaw" "reader" "LNoonLaw$TextReader;") (List.mem_cons_of_mem _ bm_27)) rfl rfl dX8_text_69 ?_
      refine zz_getr hx hb hts hi7 hown hK hP (g0.2.2.2.2.2.2.1.1) rfl 2 (by decide) (hts (.fieldLink RX8 171 "NoonLaw$TextReader" "codes" "[I") (List.mem_cons_of_mem _ bm_441)) rfl rfl dX8_text_72 ?_
      refine lv_aload_n hx hb dX8_text_75 rfl (lv_at hl 1 rfl) ?_
      refine zz_getr hx hb hts hi8 hown hK hP (g0.1) rfl 5 (by decide) (hts (.fieldLink RX8 35 "NoonLaw" "reader" "LNoonLaw$TextReader;") (List.mem_cons_of_mem _ bm_27)) rfl rfl dX8_text_76 ?_
      refine zz_geti hx hb hts hi7 hown hK hP (g0.2.2.2.2.2.2.1.1) rfl 1 (by decide) (hts (.fieldLink RX8 174 "NoonLaw$TextReader" "length" "I") (List.mem_cons_of_mem _ bm_442)) rfl rfl rfl dX8_text_79 ?_
      refine zz_callVv (As := [.ref ((h0 + 58) + 1), .int (σ4 (h0 + 58) 1)]) (rest := []) ⟨hx, hb, hml, hown, hts⟩ hK hP hS (c_X6_take l E σ4 ((h0 + 1) + 21 + 3 * j6) ((h0 + 58) + 1) (σ4 (h0 + 58) 1) (g0.2.1.2.2.2.2.2.2.2.2 j6 r6) (g0.2.2.2.2.2.2.1.2.1)) (cwV 2 hts gX8_text_X6_take rfl rfl rfl (by decide +kernel) ⟨Nat.le_of_ble_eq_true rfl, Nat.le_of_ble_eq_true rfl⟩) ((g0.2.1.2.2.2.2.2.2.2.2 j6 r6).1) rfl rfl hl.1 rfl (Nat.le_of_ble_eq_true rfl) dX8_text_82 ⟨Nat.zero_le _, Nat.zero_le _⟩ (fun σ7 H locs q7 hP1 hS1 => ?_)
      replace hP := hP1
      replace hS := hS1
      clear hP1 hS1
      try dsimp only at q7
      obtain ⟨w7, f7⟩ := q7
      replace hC := hC.tr (w7.mono (by intro a k h; first | (dsimp only at h ⊢; omega) | omega | (dsimp only at h; omega) | (dsimp only; omega)))
      try simp only [t0, t1, t2, t3, t4, t5, t6] at f7
      replace t0 : σ7 (h0 + 1) 0 = σ (h0 + 1) 0 := (w7 _ _ (by first | (dsimp only; omega) | omega)).trans t0
      replace t1 : σ7 (h0 + 1) 1 = σ (h0 + 1) 1 := (w7 _ _ (by first | (dsimp only; omega) | omega)).trans t1
      replace t2 : σ7 (h0 + 1) 4 = σ (h0 + 1) 4 := (w7 _ _ (by first | (dsimp only; omega) | omega)).trans t2
      replace t3 : σ7 (h0 + 1) 6 = σ (h0 + 1) 6 := (w7 _ _ (by first | (dsimp only; omega) | omega)).trans t3
      replace t4 : σ7 (h0 + 1) 9 = 0 := (w7 _ _ (by first | (dsimp only; omega) | omega)).trans t4
      replace t5 : σ7 (h0 + 1) 11 = σ (h0 + 1) 11 := (w7 _ _ (by first | (dsimp only; omega) | omega)).trans t5
      replace t6 : σ7 (h0 + 1) 2 = σ (h0 + 1) 2 := (w7 _ _ (by first | (dsimp only; omega) | omega)).trans t6
      refine lv_iconst (v := 1) hx hb dX8_text_85 (by decide) ?_
      obtain ⟨g0, g⟩ := f3.2
      obtain ⟨ga, gb, gc, gd, ge⟩ := g.resolve_right (fun q => absurd q.1 (by omega))
      have gl := zz_aln_b (List.map zz_enc (zz_PQ (zz_Tp σ (h0 + 1 + 4) (σ (h0 + 1) 9).toInt) use.toInt 0).2.2) 0 (by decide)
      have gn : (σ4 (h0 + 58) 1).toInt = zz_aln (List.map zz_enc (zz_PQ (zz_Tp σ (h0 + 1 + 4) (σ (h0 + 1) 9).toInt) use.toInt 0).2.2) 0 := by rw [w4, zz_un (by omega)]; exact gd
      have hk9 := f7.2.1 (by rw [gn]; exact gl)
      exact zz_iret hx hb hr hlocks hK hP hS dX8_text_86 (by exact ⟨hC, ⟨⟨by rw [t0]; exact hh, by rw [t1]; exact hsl, by rw [t2]; exact hd, by rw [t3]; exact hp, by rw [t4]; omega, by rw [t5]; exact hwc, (fun j hj => if hq : j = j6 then (by rw [hq]; exact f7.1) else (by rw [w7 _ _ (by first | (dsimp only; omega) | omega), w4, zz_un (by omega), w3 _ _ (by first | (dsimp only; omega) | omega)]; exact ht j hj)), (fun j hj => by rw [(hC _ _ (by first | (dsimp only; omega) | omega))]; exact hft j hj), (fun j hj => if hq : j = j6 then (by rw [hq]; exact Or.inr f7.2.2) else (by rw [w7 _ _ (by first | (dsimp only; omega) | omega), w4, zz_un (by omega), w3 _ _ (by first | (dsimp only; omega) | omega)]; exact hst j hj)), (by rw [zz_DXk (r := (h0 + 1)) hC (by intro j hj k hk; first | (dsimp only; omega) | omega)]; exact hid)⟩, (hkI.keep (fun k => hC _ _ (by first | (dsimp only; omega) | omega)) (fun k => hC _ _ (by first | (dsimp only; omega) | omega)) (fun j hj k => hC _ _ (by first | (dsimp only; omega) | omega)) (fun j hj f hf => hC _ _ (by first | (dsimp only; omega) | omega))), (fun j hj => by rw [hC _ _ (by first | (dsimp only; omega) | omega)]; exact hsh j hj), (by rw [hC _ _ (by first | (dsimp only; omega) | omega)]; exact hspk)⟩, Or.inr ⟨by omega, by omega, by rw [t4]; omega, Or.inl ⟨gb, gc, by omega, zz_XT.new (u := j6) (by omega) (by omega) rfl f7.2.2 (hk9.1.trans gn) (fun k hk => by rw [hk9.2 k (by rw [gn]; exact hk), w4, zz_un (by omega)]; exact ge k hk) (fun v hv hne => ⟨fun k => by rw [w7 _ _ (by first | (dsimp only; omega) | omega), w4, zz_un (by omega), w3 _ _ (by first | (dsimp only; omega) | omega)], fun k => by rw [w7 _ _ (by first | (dsimp only; omega) | omega), w4, zz_un (by omega), w3 _ _ (by first | (dsimp only; omega) | omega)]⟩)⟩⟩⟩)
    · have c5 := zz_eqT c5
      have hpb : (σ4 (h0 + 58) 0).toInt = (σ3 (h0 + 58) 0).toInt := by rw [w4, zz_un (by omega)]
      refine lv_bipush (v := (-10)) hx hb dX8_text_48 (by decide) ?_
      refine lv_aload_n hx hb dX8_text_50 rfl (lv_at hl 1 rfl) ?_
      refine zz_getr hx hb hts hi8 hown hK hP (g0.1) rfl 5 (by decide) (hts (.fieldLink RX8 35 "NoonLaw" "reader" "LNoonLaw$TextReader;") (List.mem_cons_of_mem _ bm_27)) rfl rfl dX8_text_51 ?_
      refine zz_geti hx hb hts hi7 hown hK hP (g0.2.2.2.2.2.2.1.1) rfl 0 (by decide) (hts (.fieldLink RX8 164 "NoonLaw$TextReader" "place" "I") (List.mem_cons_of_mem _ bm_439)) rfl rfl rfl dX8_text_54 ?_
      skip
      refine lv_isub hx hb dX8_text_57 ?_
      refine lv_topi (fun n8 e8 => ?_)
      have f8 : n8.toInt = ((-10) : Int32).toInt - (σ4 (h0 + 58) 0).toInt := zz_subT e8 (by omega) (by omega)
      obtain ⟨g0, g⟩ := f3.2
      have gx := (g.resolve_left (fun q => absurd q.1 (by omega))).2
      have gp : (σ4 (h0 + 58) 0).toInt = (zz_PQ (zz_Tp σ (h0 + 1 + 4) (σ (h0 + 1) 9).toInt) use.toInt 0).2.1 := by rw [← g0]; rw [w4, zz_un (by omega)]
      exact zz_iret hx hb hr hlocks hK hP hS dX8_text_58 (by exact ⟨hC, ⟨⟨by rw [t0]; exact hh, by rw [t1]; exact hsl, by rw [t2]; exact hd, by rw [t3]; exact hp, by rw [t4]; omega, by rw [t5]; exact hwc, (fun j hj => by rw [w4, zz_un (by omega), w3 _ _ (by first | (dsimp only; omega) | omega)]; exact ht j hj), (fun j hj => by rw [(hC _ _ (by first | (dsimp only; omega) | omega))]; exact hft j hj), (fun j hj => by rw [w4, zz_un (by omega), w3 _ _ (by first | (dsimp only; omega) | omega)]; exact hst j hj), (by rw [zz_DXk (r := (h0 + 1)) hC (by intro j hj k hk; first | (dsimp only; omega) | omega)]; exact hid)⟩, (hkI.keep (fun k => hC _ _ (by first | (dsimp only; omega) | omega)) (fun k => hC _ _ (by first | (dsimp only; omega) | omega)) (fun j hj k => hC _ _ (by first | (dsimp only; omega) | omega)) (fun j hj f hf => hC _ _ (by first | (dsimp only; omega) | omega))), (fun j hj => by rw [hC _ _ (by first | (dsimp only; omega) | omega)]; exact hsh j hj), (by rw [hC _ _ (by first | (dsimp only; omega) | omega)]; exact hspk)⟩, Or.inr ⟨by omega, by omega, by rw [t4]; omega, Or.inr ⟨gx, by rw [← gp]; omega, zz_XT.eq (fun u hu => by rw [w4, zz_un (by omega), w3 _ _ (by first | (dsimp only; omega) | omega)]) (fun u hu => by rw [w4, zz_un (by omega), w3 _ _ (by first | (dsimp only; omega) | omega)]) (fun u hu k _ => by rw [w4, zz_un (by omega), w3 _ _ (by first | (dsimp only; omega) | omega)])⟩⟩⟩)
  · have c2 := zz_eqT c2
    refine lv_aload_n hx hb dX8_text_7 rfl (lv_at hl 0 rfl) ?_
    refine lv_iconst (v := 1) hx hb dX8_text_8 (by decide) ?_
    refine zz_callVi (As := [.int 1]) (rest := []) ⟨hx, hb, hml, hown, hts⟩ hK hP hS (c_X8_refuse l E σ h0 1 g0 (by omega)) (cwV 1 hts gX8_text_X8_refuse rfl rfl rfl (by decide +kernel) ⟨Nat.le_of_ble_eq_true rfl, Nat.le_of_ble_eq_true rfl⟩) (g0.1) rfl rfl hl.1 rfl (Nat.le_of_ble_eq_true rfl) dX8_text_9 ⟨Nat.zero_le _, Nat.zero_le _⟩ (fun r9 σ9 H locs q9 hP1 hS1 => ?_)
    replace hP := hP1
    replace hS := hS1
    clear hP1 hS1
    try dsimp only at q9
    obtain ⟨w9, f9⟩ := q9
    replace hC := hC.tr (w9.mono (dS17_4 h0))
    replace t0 : σ9 (h0 + 1) 0 = σ (h0 + 1) 0 := (w9 (h0 + 1) 0 (dS17_5 h0)).trans t0
    replace t1 : σ9 (h0 + 1) 1 = σ (h0 + 1) 1 := (w9 (h0 + 1) 1 (dS17_5 h0)).trans t1
    replace t2 : σ9 (h0 + 1) 4 = σ (h0 + 1) 4 := (w9 (h0 + 1) 4 (dS17_5 h0)).trans t2
    replace t3 : σ9 (h0 + 1) 6 = σ (h0 + 1) 6 := (w9 (h0 + 1) 6 (dS17_5 h0)).trans t3
    replace t4 : σ9 (h0 + 1) 9 = σ (h0 + 1) 9 := (w9 (h0 + 1) 9 (dS17_5 h0)).trans t4
    replace t5 : σ9 (h0 + 1) 11 = σ (h0 + 1) 11 := (w9 (h0 + 1) 11 (dS17_5 h0)).trans t5
    replace t6 : σ9 (h0 + 1) 2 = σ (h0 + 1) 2 := (w9 (h0 + 1) 2 (dS17_5 h0)).trans t6
    exact zz_iret hx hb hr hlocks hK hP hS dX8_text_12 (by exact ⟨hC, (hI.soft (w9.mono (by intro a k h; omega))), Or.inl ⟨by omega, by rw [t4], by omega, (zz_XT.eq (fun u hu => w9 _ _ (by first | (dsimp only; omega) | omega)) (fun u hu => w9 _ _ (by first | (dsimp only; omega) | omega)) (fun u hu k _ => w9 _ _ (by first | (dsimp only; omega) | omega))), (zz_Tp.eq (congrArg Int32.toInt (w9 _ _ (by first | (dsimp only; omega) | omega))) htc.2 (fun k _ => w9 _ _ (by first | (dsimp only; omega) | omega)))⟩⟩)
theorem gX8_untell_X8_isUse : GoodIn wzX8_untell (va_wsS RX8 157 yX8_isUse wzX8_isUse) := wz_co bm_443 (wz_co bm_444 (wz_co bm_2 (wz_in bm_445)))
theorem gX8_untell_X8_refuse : GoodIn wzX8_untell (wsV RX8 68 RX8 yX8_refuse wzX8_refuse) := wz_co bm_118 (wz_co bm_119 (wz_co bm_120 (wz_co bm_2 (wz_in bm_121))))
theorem dS17_6 (x0 : Nat) : ∀ a k : Nat, (a = (x0) + 65) → (a = x0 + 24 ∨ a = x0 + 27 ∨ (x0 + 58 ≤ a ∧ a ≤ x0 + 67) ∨ a = x0 + 22 ∨ a = x0 + 25) := by intro a k h; omega
set_option maxHeartbeats 4000000 in
set_option maxRecDepth 100000 in
theorem c_X8_untell (l : Launch) (E : zz_E) (σ : zz_S) (h0 : Nat) (use : Int32) (g0 : zz_L E h0) (hI : zz_IX σ h0) : Met l yX8_untell wzX8_untell ({ frames := 2, cells := 0, slots := 0, locals := 42 }) (va_Pc [.ref h0, .int use] (zz_B E σ)) (va_Qi (fun r σ1 => zz_ch (fun a k => a = h0 + 24 ∨ a = h0 + 27 ∨ (h0 + 58 ≤ a ∧ a ≤ h0 + 67) ∨ a = h0 + 22 ∨ a = h0 + 25) σ σ1 ∧ (zz_IX σ1 h0 ∧ (((use.toInt < 0 ∨ 1 < use.toInt) ∧ r.toInt = -1000000001 ∧ zz_XT σ1 (h0 + 1) = zz_XT σ (h0 + 1)) ∨ ((0 ≤ use.toInt ∧ use.toInt ≤ 1) ∧ r.toInt = (zz_XT σ (h0 + 1) use.toInt.toNat).1 ∧ zz_XT σ1 (h0 + 1) = zz_xw (zz_XT σ (h0 + 1)) use.toInt ((0 : Int32).toInt, (zz_XT σ (h0 + 1) use.toInt.toNat).2))))) (zz_B E) (zz_A E)) 0 0 (zz_A E) := by
  refine zz_met (cc := cX8_untell) (maxL := 4) (ret := (some .int)) (by decide) rfl (Nat.le_of_ble_eq_true rfl) ?_
  intro p e s m args below meth c ls hx hb hr hts hown hlocks hml hK hP hS hl
  have hl : lv_has ls 4 [(0, .ref h0), (1, .int use)] := hl
  have hown : s.vm.findClass RX8 = some m.cls := hown
  have hi2 : ∀ w ∈ wsX20, w ∈ wzX8_untell := fun w h => List.mem_cons_of_mem _ (hbw2 w h)
  have hi6 : ∀ w ∈ wsX60, w ∈ wzX8_untell := fun w h => List.mem_cons_of_mem _ (hbw6 w h)
  have hi8 : ∀ w ∈ wsX80, w ∈ wzX8_untell := fun w h => List.mem_cons_of_mem _ (hbw8 w h)
  have k_0 : (0 : Int32).toInt = 0 := by decide +kernel
  have k_1 : (1 : Int32).toInt = 1 := by decide +kernel
  replace t0 : σ (h0 + 1) 0 = σ (h0 + 1) 0 := rfl
  replace t1 : σ (h0 + 1) 1 = σ (h0 + 1) 1 := rfl
  replace t2 : σ (h0 + 1) 4 = σ (h0 + 1) 4 := rfl
  replace t3 : σ (h0 + 1) 6 = σ (h0 + 1) 6 := rfl
  replace t4 : σ (h0 + 1) 9 = σ (h0 + 1) 9 := rfl
  replace t5 : σ (h0 + 1) 11 = σ (h0 + 1) 11 := rfl
  replace t6 : σ (h0 + 1) 2 = σ (h0 + 1) 2 := rfl
  have hC : zz_ch (fun a k => a = h0 + 24 ∨ a = h0 + 27 ∨ (h0 + 58 ≤ a ∧ a ≤ h0 + 67) ∨ a = h0 + 22 ∨ a = h0 + 25) σ σ := zz_ch.rf σ
  obtain ⟨⟨hh, hsl, hd, hp, htc, hwc, ht, hft, hst, hid⟩, hkI, hsh, hspk⟩ := id hI
  refine lv_iload_n hx hb dX8_untell_0 rfl (lv_at hl 1 rfl) ?_
  refine zz_callSp (As := [.int use]) (rest := []) ⟨hx, hb, hml, hown, hts⟩ hK hP hS (c_X8_isUse l E σ use) (va_cwS 1 hts gX8_untell_X8_isUse rfl rfl rfl (by decide +kernel) ⟨Nat.le_of_ble_eq_true rfl, Nat.le_of_ble_eq_true rfl⟩) rfl hl.1 rfl (Nat.le_of_ble_eq_true rfl) dX8_untell_1 ⟨Nat.zero_le _, Nat.zero_le _⟩ (fun r1 H locs f1 hP1 hS1 => ?_)
  replace hP := hP1
  replace hS := hS1
  clear hP1 hS1
  refine lv_if_ne (tgt := 13) hx hb dX8_untell_4 (by decide) (fun c2 => ?_) (fun c2 => ?_)
  · have c2 := zz_neT c2
    refine lv_aload_n hx hb dX8_untell_13 rfl (lv_at hl 0 rfl) ?_
    refine zz_getr hx hb hts hi8 hown hK hP (g0.1) rfl 0 (by decide) (hts (.fieldLink RX8 10 "NoonLaw" "realm" "LNoonLaw$Realm;") (List.mem_cons_of_mem _ bm_16)) rfl rfl dX8_untell_14 ?_
    refine zz_getr hx hb hts hi2 hown hK hP (g0.2.1.1) rfl 7 (by decide) (hts (.fieldLink RX8 167 "NoonLaw$Realm" "texts" "[LNoonLaw$Text;") (List.mem_cons_of_mem _ bm_440)) rfl rfl dX8_untell_17 ?_
    refine lv_iload_n hx hb dX8_untell_20 rfl (lv_at hl 1 rfl) ?_
    refine zz_aald hx hb hK hP (g0.2.1.2.2.2.1) rfl (by omega) (by omega) dX8_untell_21 (fun j3 q3 r3 => ?_)
    refine lv_astore_n (lv' := [(2, .ref ((h0 + 1) + 21 + 3 * j3)), (0, .ref h0), (1, .int use)]) hx hb dX8_untell_22 rfl hl (by decide) rfl (fun ls hl => ?_)
    have hs0 := hst j3 r3
    refine lv_aload_n hx hb dX8_untell_23 rfl (lv_at hl 0 rfl) ?_
    refine zz_geti hx hb hts hi6 hown hK hP ((g0.2.1.2.2.2.2.2.2.2.2 j3 r3).1) rfl 0 (by decide) (hts (.fieldLink RX8 183 "NoonLaw$Text" "stands" "Z") (List.mem_cons_of_mem _ bm_563)) rfl rfl rfl dX8_untell_24 ?_
    refine lv_if_eq (tgt := 34) hx hb dX8_untell_27 (by decide) (fun c4 => ?_) (fun c4 => ?_)
    · have c4 := zz_eqT c4
      refine lv_iconst (v := 0) hx hb dX8_untell_34 (by decide) ?_
      refine lv_istore_n (lv' := [(3, .int 0), (2, .ref ((h0 + 1) + 21 + 3 * j3)), (0, .ref h0), (1, .int use)]) hx hb dX8_untell_35 rfl hl (by decide) rfl (fun ls hl => ?_)
      skip
      refine lv_aload_n hx hb dX8_untell_36 rfl (lv_at hl 1 rfl) ?_
      refine lv_iconst (v := 0) hx hb dX8_untell_37 (by decide) ?_
      refine zz_puti (v := 0) (ty := .boolean) hx hb hts hi6 tyX6 tyX6_ok nmX6 hown hK hP hS ((g0.2.1.2.2.2.2.2.2.2.2 j3 r3).1) rfl 0 (by decide) (hts (.fieldLink RX8 183 "NoonLaw$Text" "stands" "Z") (List.mem_cons_of_mem _ bm_563)) rfl rfl (by decide +kernel) (zz_nz (by omega)) (zz_fz (by omega)) rfl dX8_untell_38 (fun σ5 H locs w5 hP1 hS1 => ?_)
      replace hP := hP1
      replace hS := hS1
      clear hP1 hS1
      replace hC := hC.u w5 (by first | (dsimp only; omega) | omega | (dsimp only; done))
      replace t0 : σ5 (h0 + 1) 0 = σ (h0 + 1) 0 := (zz_w (b := (h0 + 1)) (j := 0) w5 (by omega)).trans t0
      replace t1 : σ5 (h0 + 1) 1 = σ (h0 + 1) 1 := (zz_w (b := (h0 + 1)) (j := 1) w5 (by omega)).trans t1
      replace t2 : σ5 (h0 + 1) 4 = σ (h0 + 1) 4 := (zz_w (b := (h0 + 1)) (j := 4) w5 (by omega)).trans t2
      replace t3 : σ5 (h0 + 1) 6 = σ (h0 + 1) 6 := (zz_w (b := (h0 + 1)) (j := 6) w5 (by omega)).trans t3
      replace t4 : σ5 (h0 + 1) 9 = σ (h0 + 1) 9 := (zz_w (b := (h0 + 1)) (j := 9) w5 (by omega)).trans t4
      replace t5 : σ5 (h0 + 1) 11 = σ (h0 + 1) 11 := (zz_w (b := (h0 + 1)) (j := 11) w5 (by omega)).trans t5
      replace t6 : σ5 (h0 + 1) 2 = σ (h0 + 1) 2 := (zz_w (b := (h0 + 1)) (j := 2) w5 (by omega)).trans t6
      refine lv_iload_n hx hb dX8_untell_41 rfl (lv_at hl 0 rfl) ?_
      have hsq : zz_XT σ (h0 + 1) use.toInt.toNat = zz_XT σ (h0 + 1) j3 := by rw [show use.toInt.toNat = j3 from by omega]
      have hsv : (zz_XT σ (h0 + 1) j3).1 = (σ (h0 + 1 + 21 + 3 * j3) 0).toInt := by simp only [zz_XT]; rw [if_pos r3]
      exact zz_iret hx hb hr hlocks hK hP hS dX8_untell_42 (by exact ⟨hC, ⟨⟨by rw [t0]; exact hh, by rw [t1]; exact hsl, by rw [t2]; exact hd, by rw [t3]; exact hp, by rw [t4]; omega, by rw [t5]; exact hwc, (fun j hj => by rw [w5, zz_un (by omega)]; exact ht j hj), (fun j hj => by rw [(hC _ _ (by first | (dsimp only; omega) | omega))]; exact hft j hj), (fun j hj => if hq : j = j3 then (by rw [hq, w5, zz_us]; exact Or.inl k_0) else (by rw [w5, zz_un (by omega)]; exact hst j hj)), (by rw [zz_DXk (r := (h0 + 1)) hC (by intro j hj k hk; first | (dsimp only; omega) | omega)]; exact hid)⟩, (hkI.keep (fun k => hC _ _ (by first | (dsimp only; omega) | omega)) (fun k => hC _ _ (by first | (dsimp only; omega) | omega)) (fun j hj k => hC _ _ (by first | (dsimp only; omega) | omega)) (fun j hj f hf => hC _ _ (by first | (dsimp only; omega) | omega))), (fun j hj => by rw [hC _ _ (by first | (dsimp only; omega) | omega)]; exact hsh j hj), (by rw [hC _ _ (by first | (dsimp only; omega) | omega)]; exact hspk)⟩, Or.inr ⟨by omega, by rw [hsq, hsv]; omega, by rw [hsq]; exact zz_XT.std w5 (by omega) r3 rfl⟩⟩)
    · have c4 := zz_neT c4
      refine lv_iconst (v := 1) hx hb dX8_untell_30 (by decide) ?_
      refine lv_goto (tgt := 35) hx hb dX8_untell_31 (by decide) ?_
      refine lv_istore_n (lv' := [(3, .int 1), (2, .ref ((h0 + 1) + 21 + 3 * j3)), (0, .ref h0), (1, .int use)]) hx hb dX8_untell_35 rfl hl (by decide) rfl (fun ls hl => ?_)
      skip
      refine lv_aload_n hx hb dX8_untell_36 rfl (lv_at hl 1 rfl) ?_
      refine lv_iconst (v := 0) hx hb dX8_untell_37 (by decide) ?_
      refine zz_puti (v := 0) (ty := .boolean) hx hb hts hi6 tyX6 tyX6_ok nmX6 hown hK hP hS ((g0.2.1.2.2.2.2.2.2.2.2 j3 r3).1) rfl 0 (by decide) (hts (.fieldLink RX8 183 "NoonLaw$Text" "stands" "Z") (List.mem_cons_of_mem _ bm_563)) rfl rfl (by decide +kernel) (zz_nz (by omega)) (zz_fz (by omega)) rfl dX8_untell_38 (fun σ6 H locs w6 hP1 hS1 => ?_)
      replace hP := hP1
      replace hS := hS1
      clear hP1 hS1
      replace hC := hC.u w6 (by first | (dsimp only; omega) | omega | (dsimp only; done))
      replace t0 : σ6 (h0 + 1) 0 = σ (h0 + 1) 0 := (zz_w (b := (h0 + 1)) (j := 0) w6 (by omega)).trans t0
      replace t1 : σ6 (h0 + 1) 1 = σ (h0 + 1) 1 := (zz_w (b := (h0 + 1)) (j := 1) w6 (by omega)).trans t1
      replace t2 : σ6 (h0 + 1) 4 = σ (h0 + 1) 4 := (zz_w (b := (h0 + 1)) (j := 4) w6 (by omega)).trans t2
      replace t3 : σ6 (h0 + 1) 6 = σ (h0 + 1) 6 := (zz_w (b := (h0 + 1)) (j := 6) w6 (by omega)).trans t3
      replace t4 : σ6 (h0 + 1) 9 = σ (h0 + 1) 9 := (zz_w (b := (h0 + 1)) (j := 9) w6 (by omega)).trans t4
      replace t5 : σ6 (h0 + 1) 11 = σ (h0 + 1) 11 := (zz_w (b := (h0 + 1)) (j := 11) w6 (by omega)).trans t5
      replace t6 : σ6 (h0 + 1) 2 = σ (h0 + 1) 2 := (zz_w (b := (h0 + 1)) (j := 2) w6 (by omega)).trans t6
      refine lv_iload_n hx hb dX8_untell_41 rfl (lv_at hl 0 rfl) ?_
      have hsq : zz_XT σ (h0 + 1) use.toInt.toNat = zz_XT σ (h0 + 1) j3 := by rw [show use.toInt.toNat = j3 from by omega]
      have hsv : (zz_XT σ (h0 + 1) j3).1 = (σ (h0 + 1 + 21 + 3 * j3) 0).toInt := by simp only [zz_XT]; rw [if_pos r3]
      exact zz_iret hx hb hr hlocks hK hP hS dX8_untell_42 (by exact ⟨hC, ⟨⟨by rw [t0]; exact hh, by rw [t1]; exact hsl, by rw [t2]; exact hd, by rw [t3]; exact hp, by rw [t4]; omega, by rw [t5]; exact hwc, (fun j hj => by rw [w6, zz_un (by omega)]; exact ht j hj), (fun j hj => by rw [(hC _ _ (by first | (dsimp only; omega) | omega))]; exact hft j hj), (fun j hj => if hq : j = j3 then (by rw [hq, w6, zz_us]; exact Or.inl k_0) else (by rw [w6, zz_un (by omega)]; exact hst j hj)), (by rw [zz_DXk (r := (h0 + 1)) hC (by intro j hj k hk; first | (dsimp only; omega) | omega)]; exact hid)⟩, (hkI.keep (fun k => hC _ _ (by first | (dsimp only; omega) | omega)) (fun k => hC _ _ (by first | (dsimp only; omega) | omega)) (fun j hj k => hC _ _ (by first | (dsimp only; omega) | omega)) (fun j hj f hf => hC _ _ (by first | (dsimp only; omega) | omega))), (fun j hj => by rw [hC _ _ (by first | (dsimp only; omega) | omega)]; exact hsh j hj), (by rw [hC _ _ (by first | (dsimp only; omega) | omega)]; exact hspk)⟩, Or.inr ⟨by omega, by rw [hsq, hsv]; omega, by rw [hsq]; exact zz_XT.std w6 (by omega) r3 rfl⟩⟩)
  · have c2 := zz_eqT c2
    refine lv_aload_n hx hb dX8_untell_7 rfl (lv_at hl 0 rfl) ?_
    refine lv_iconst (v := 1) hx hb dX8_untell_8 (by decide) ?_
    refine zz_callVi (As := [.int 1]) (rest := []) ⟨hx, hb, hml, hown, hts⟩ hK hP hS (c_X8_refuse l E σ h0 1 g0 (by omega)) (cwV 1 hts gX8_untell_X8_refuse rfl rfl rfl (by decide +kernel) ⟨Nat.le_of_ble_eq_true rfl, Nat.le_of_ble_eq_true rfl⟩) (g0.1) rfl rfl hl.1 rfl (Nat.le_of_ble_eq_true rfl) dX8_untell_9 ⟨Nat.zero_le _, Nat.zero_le _⟩ (fun r7 σ7 H locs q7 hP1 hS1 => ?_)
    replace hP := hP1
    replace hS := hS1
    clear hP1 hS1
    try dsimp only at q7
    obtain ⟨w7, f7⟩ := q7
    replace hC := hC.tr (w7.mono (dS17_6 h0))
    replace t0 : σ7 (h0 + 1) 0 = σ (h0 + 1) 0 := (w7 (h0 + 1) 0 (dS17_5 h0)).trans t0
    replace t1 : σ7 (h0 + 1) 1 = σ (h0 + 1) 1 := (w7 (h0 + 1) 1 (dS17_5 h0)).trans t1
    replace t2 : σ7 (h0 + 1) 4 = σ (h0 + 1) 4 := (w7 (h0 + 1) 4 (dS17_5 h0)).trans t2
    replace t3 : σ7 (h0 + 1) 6 = σ (h0 + 1) 6 := (w7 (h0 + 1) 6 (dS17_5 h0)).trans t3
    replace t4 : σ7 (h0 + 1) 9 = σ (h0 + 1) 9 := (w7 (h0 + 1) 9 (dS17_5 h0)).trans t4
    replace t5 : σ7 (h0 + 1) 11 = σ (h0 + 1) 11 := (w7 (h0 + 1) 11 (dS17_5 h0)).trans t5
    replace t6 : σ7 (h0 + 1) 2 = σ (h0 + 1) 2 := (w7 (h0 + 1) 2 (dS17_5 h0)).trans t6
    exact zz_iret hx hb hr hlocks hK hP hS dX8_untell_12 (by exact ⟨hC, (hI.soft (w7.mono (by intro a k h; omega))), Or.inl ⟨by omega, by omega, zz_XT.eq (fun u hu => w7 _ _ (by first | (dsimp only; omega) | omega)) (fun u hu => w7 _ _ (by first | (dsimp only; omega) | omega)) (fun u hu k _ => w7 _ _ (by first | (dsimp only; omega) | omega))⟩⟩)
theorem gX8_image_X2_takeAll : GoodIn wzX8_image (wsV RX8 287 RX2 yX2_takeAll wzX2_takeAll) := wz_co bm_948 (wz_co bm_949 (wz_co bm_950 (wz_co bm_15 (wz_in bm_951))))
theorem dS17_7 (x0 : Nat) : ∀ a k : Nat, ((x0 + 28) ≤ a ∧ a < (x0 + 28) + 27) → (a = x0 + 24 ∨ a = x0 + 27 ∨ (x0 + 58 ≤ a ∧ a ≤ x0 + 67) ∨ a = x0 ∨ (x0 + 28 ≤ a ∧ a < x0 + 55)) := by intro a k h; omega
theorem dS17_8 (x0 : Nat) : ¬ ((x0 + 28) ≤ (x0) ∧ (x0) < (x0 + 28) + 27) := by omega
theorem dS17_9 (x0 : Nat) : (x0) = x0 + 24 ∨ (x0) = x0 + 27 ∨ (x0 + 58 ≤ (x0) ∧ (x0) ≤ x0 + 67) ∨ (x0) = x0 ∨ (x0 + 28 ≤ (x0) ∧ (x0) < x0 + 55) := by omega
set_option maxHeartbeats 4000000 in
set_option maxRecDepth 100000 in
theorem c_X8_image (l : Launch) (E : zz_E) (σ : zz_S) (h0 : Nat) (g0 : zz_L E h0) (hI : zz_IX σ h0) : Met l yX8_image wzX8_image ({ frames := 3, cells := 0, slots := 0, locals := 85 }) (va_Pc [.ref h0] (zz_B E σ)) (va_Qi (fun r σ1 => zz_ch (fun a k => a = h0 + 24 ∨ a = h0 + 27 ∨ (h0 + 58 ≤ a ∧ a ≤ h0 + 67) ∨ a = h0 ∨ (h0 + 28 ≤ a ∧ a < h0 + 55)) σ σ1 ∧ (zz_IX σ1 h0 ∧ r = σ1 h0 2 ∧ σ1 h0 2 = σ h0 2 + 1 ∧ σ1 (h0 + 28) 0 = σ (h0 + 1) 0 ∧ σ1 (h0 + 28) 1 = σ (h0 + 1) 1 ∧ σ1 (h0 + 28) 2 = σ (h0 + 1) 2 ∧ σ1 (h0 + 28) 4 = σ (h0 + 1) 4 ∧ σ1 (h0 + 28) 6 = σ (h0 + 1) 6 ∧ σ1 (h0 + 28) 9 = σ (h0 + 1) 9 ∧ σ1 (h0 + 28) 11 = σ (h0 + 1) 11 ∧ zz_DX σ1 (h0 + 28) = zz_DX σ (h0 + 1) ∧ zz_PX 0 σ1 (h0 + 28) = zz_PX 0 σ (h0 + 1) ∧ zz_PX 1 σ1 (h0 + 28) = zz_PX 1 σ (h0 + 1) ∧ zz_XT σ1 (h0 + 28) = zz_XT σ (h0 + 1) ∧ zz_Tp σ1 (h0 + 28 + 4) (σ1 (h0 + 28) 9).toInt = zz_Tp σ (h0 + 1 + 4) (σ (h0 + 1) 9).toInt ∧ zy_wv σ1 (h0 + 28 + 5) 0 (σ1 (h0 + 28) 11).toInt = zy_wv σ (h0 + 1 + 5) 0 (σ (h0 + 1) 11).toInt)) (zz_B E) (zz_A E)) 0 0 (zz_A E) := by
  refine zz_met (cc := cX8_image) (maxL := 1) (ret := (some .int)) (by decide) rfl (Nat.le_of_ble_eq_true rfl) ?_
  intro p e s m args below meth c ls hx hb hr hts hown hlocks hml hK hP hS hl
  have hl : lv_has ls 1 [(0, .ref h0)] := hl
  have hown : s.vm.findClass RX8 = some m.cls := hown
  have hi8 : ∀ w ∈ wsX80, w ∈ wzX8_image := fun w h => List.mem_cons_of_mem _ (hbw8 w h)
  have k_1 : (1 : Int32).toInt = 1 := by decide +kernel
  replace t0 : σ (h0 + 28) 0 = σ (h0 + 28) 0 := rfl
  replace t1 : σ (h0 + 28) 1 = σ (h0 + 28) 1 := rfl
  replace t2 : σ (h0 + 28) 2 = σ (h0 + 28) 2 := rfl
  replace t3 : σ (h0 + 28) 4 = σ (h0 + 28) 4 := rfl
  replace t4 : σ (h0 + 28) 6 = σ (h0 + 28) 6 := rfl
  replace t5 : σ (h0 + 28) 9 = σ (h0 + 28) 9 := rfl
  replace t6 : σ (h0 + 28) 11 = σ (h0 + 28) 11 := rfl
  replace t7 : σ h0 2 = σ h0 2 := rfl
  have hC : zz_ch (fun a k => a = h0 + 24 ∨ a = h0 + 27 ∨ (h0 + 58 ≤ a ∧ a ≤ h0 + 67) ∨ a = h0 ∨ (h0 + 28 ≤ a ∧ a < h0 + 55)) σ σ := zz_ch.rf σ
  obtain ⟨⟨hh, hsl, hd, hp, htc, hwc, ht, hft, hst, hid⟩, hkI, hsh, hspk⟩ := id hI
  refine lv_aload_n hx hb dX8_image_0 rfl (lv_at hl 0 rfl) ?_
  refine zz_getr hx hb hts hi8 hown hK hP (g0.1) rfl 1 (by decide) (hts (.fieldLink RX8 16 "NoonLaw" "kept" "LNoonLaw$Realm;") (List.mem_cons_of_mem _ bm_17)) rfl rfl dX8_image_1 ?_
  refine lv_aload_n hx hb dX8_image_4 rfl (lv_at hl 0 rfl) ?_
  refine zz_getr hx hb hts hi8 hown hK hP (g0.1) rfl 0 (by decide) (hts (.fieldLink RX8 10 "NoonLaw" "realm" "LNoonLaw$Realm;") (List.mem_cons_of_mem _ bm_16)) rfl rfl dX8_image_5 ?_
  refine zz_callVv (As := [.ref (h0 + 1)]) (rest := []) ⟨hx, hb, hml, hown, hts⟩ hK hP hS (c_X2_takeAll l E σ (h0 + 28) (h0 + 1) (g0.2.2.1) (g0.2.1) (by omega) (by exact ht) (by exact hft) (by exact hst)) (cwV 1 hts gX8_image_X2_takeAll rfl rfl rfl (by decide +kernel) ⟨Nat.le_of_ble_eq_true rfl, Nat.le_of_ble_eq_true rfl⟩) (g0.2.2.1.1) rfl rfl hl.1 rfl (Nat.le_of_ble_eq_true rfl) dX8_image_8 ⟨Nat.zero_le _, Nat.zero_le _⟩ (fun σ1 H locs q1 hP1 hS1 => ?_)
  replace hP := hP1
  replace hS := hS1
  clear hP1 hS1
  try dsimp only at q1
  obtain ⟨w1, f1⟩ := q1
  replace hC := hC.tr (w1.mono (dS17_7 h0))
  replace t0 : σ1 (h0 + 28) 0 = σ (h0 + 1) 0 := f1.1
  replace t1 : σ1 (h0 + 28) 1 = σ (h0 + 1) 1 := f1.2.1
  replace t2 : σ1 (h0 + 28) 2 = σ (h0 + 1) 2 := f1.2.2.1
  replace t3 : σ1 (h0 + 28) 4 = σ (h0 + 1) 4 := f1.2.2.2.1
  replace t4 : σ1 (h0 + 28) 6 = σ (h0 + 1) 6 := f1.2.2.2.2.1
  replace t5 : σ1 (h0 + 28) 9 = σ (h0 + 1) 9 := f1.2.2.2.2.2.1
  replace t6 : σ1 (h0 + 28) 11 = σ (h0 + 1) 11 := f1.2.2.2.2.2.2.1
  replace t7 : σ1 h0 2 = σ h0 2 := (w1 h0 2 (dS17_8 h0)).trans t7
  refine lv_aload_n hx hb dX8_image_11 rfl (lv_at hl 0 rfl) ?_
  refine lv_dup hx hb dX8_image_12 rfl ?_
  refine zz_geti hx hb hts hi8 hown hK hP (g0.1) rfl 2 (by decide) (hts (.fieldLink RX8 291 "NoonLaw" "images" "I") (List.mem_cons_of_mem _ bm_947)) rfl rfl t7 dX8_image_13 ?_
  refine lv_iconst (v := 1) hx hb dX8_image_16 (by decide) ?_
  refine lv_iadd hx hb dX8_image_17 ?_
  refine lv_topi (fun n2 e2 => ?_)
  skip
  refine zz_puti (v := n2) (ty := .int) hx hb hts hi8 tyX8 tyX8_ok nmX8 hown hK hP hS (g0.1) rfl 2 (by decide) (hts (.fieldLink RX8 291 "NoonLaw" "images" "I") (List.mem_cons_of_mem _ bm_947)) rfl rfl (by decide +kernel) rfl rfl rfl dX8_image_18 (fun σ3 H locs w3 hP1 hS1 => ?_)
  replace hP := hP1
  replace hS := hS1
  clear hP1 hS1
  replace hC := hC.u w3 (dS17_9 h0)
  replace t0 : σ3 (h0 + 28) 0 = σ (h0 + 1) 0 := (zz_w (b := (h0 + 28)) (j := 0) w3 (fun q9 => zz_na (a := h0) (i := 28) (j := 0) (by decide) q9.1)).trans t0
  replace t1 : σ3 (h0 + 28) 1 = σ (h0 + 1) 1 := (zz_w (b := (h0 + 28)) (j := 1) w3 (fun q9 => zz_na (a := h0) (i := 28) (j := 0) (by decide) q9.1)).trans t1
  replace t2 : σ3 (h0 + 28) 2 = σ (h0 + 1) 2 := (zz_w (b := (h0 + 28)) (j := 2) w3 (fun q9 => zz_na (a := h0) (i := 28) (j := 0) (by decide) q9.1)).trans t2
  replace t3 : σ3 (h0 + 28) 4 = σ (h0 + 1) 4 := (zz_w (b := (h0 + 28)) (j := 4) w3 (fun q9 => zz_na (a := h0) (i := 28) (j := 0) (by decide) q9.1)).trans t3
  replace t4 : σ3 (h0 + 28) 6 = σ (h0 + 1) 6 := (zz_w (b := (h0 + 28)) (j := 6) w3 (fun q9 => zz_na (a := h0) (i := 28) (j := 0) (by decide) q9.1)).trans t4
  replace t5 : σ3 (h0 + 28) 9 = σ (h0 + 1) 9 := (zz_w (b := (h0 + 28)) (j := 9) w3 (fun q9 => zz_na (a := h0) (i := 28) (j := 0) (by decide) q9.1)).trans t5
  replace t6 : σ3 (h0 + 28) 11 = σ (h0 + 1) 11 := (zz_w (b := (h0 + 28)) (j := 11) w3 (fun q9 => zz_na (a := h0) (i := 28) (j := 0) (by decide) q9.1)).trans t6
  replace t7 : σ3 h0 2 = n2 := zz_w1 w3
  refine lv_aload_n hx hb dX8_image_21 rfl (lv_at hl 0 rfl) ?_
  refine zz_geti hx hb hts hi8 hown hK hP (g0.1) rfl 2 (by decide) (hts (.fieldLink RX8 291 "NoonLaw" "images" "I") (List.mem_cons_of_mem _ bm_947)) rfl rfl t7 dX8_image_22 ?_
  exact zz_iret hx hb hr hlocks hK hP hS dX8_image_25 (by exact ⟨hC, ⟨(hI.1.keep (fun k => hC _ _ (by first | (dsimp only; omega) | omega)) (fun k => hC _ _ (by first | (dsimp only; omega) | omega)) (fun j hj k => hC _ _ (by first | (dsimp only; omega) | omega)) (fun j hj f hf => hC _ _ (by first | (dsimp only; omega) | omega))), ⟨by rw [t0]; exact hh, by rw [t1]; exact hsl, by rw [t3]; exact hd, by rw [t4]; exact hp, by rw [t5]; exact htc, by rw [t6]; exact hwc, (fun j hj => by rw [w3, zz_un (by omega)]; exact f1.2.2.2.2.2.2.2.1 j hj), (fun j hj => by rw [w3, zz_un (by omega)]; exact f1.2.2.2.2.2.2.2.2.1 j hj), (fun j hj => by rw [w3, zz_un (by omega)]; exact f1.2.2.2.2.2.2.2.2.2.1 j hj), by rw [zz_DXo (r := h0 + 28) w3 (by intro j hj; omega), f1.2.2.2.2.2.2.2.2.2.2.1]; exact hid⟩, (fun j hj => by rw [hC _ _ (by first | (dsimp only; omega) | omega)]; exact hsh j hj), (by rw [hC _ _ (by first | (dsimp only; omega) | omega)]; exact hspk)⟩, t7.symm, t7.trans (by rw [e2]), t0, t1, t2, t3, t4, t5, t6, (by rw [zz_DXo (r := h0 + 28) w3 (by intro j hj; omega)]; exact f1.2.2.2.2.2.2.2.2.2.2.1), (by rw [zz_PXo (f := 0) (r := h0 + 28) w3 (fun j hj q => by omega)]; exact f1.2.2.2.2.2.2.2.2.2.2.2.1), (by rw [zz_PXo (f := 1) (r := h0 + 28) w3 (fun j hj q => by omega)]; exact f1.2.2.2.2.2.2.2.2.2.2.2.2.1), ((zz_XT.eq (fun u hu => by rw [w3, zz_un (by omega)]) (fun u hu => by rw [w3, zz_un (by omega)]) (fun u hu k _ => by rw [w3, zz_un (by omega)])).trans f1.2.2.2.2.2.2.2.2.2.2.2.2.2.1), (zz_Tp.eq (congrArg Int32.toInt t5) htc.2 (fun k hk => by rw [w3, zz_un (by omega)]; exact f1.2.2.2.2.2.2.2.2.2.2.2.2.2.2.1 k hk)), (zy_wv.eq (congrArg Int32.toInt t6) (fun k hk => by rw [w3, zz_un (by omega), Nat.zero_add]; exact f1.2.2.2.2.2.2.2.2.2.2.2.2.2.2.2 k hk))⟩)
theorem gX8_restore_X8_refuse : GoodIn wzX8_restore (wsV RX8 68 RX8 yX8_refuse wzX8_refuse) := wz_co bm_118 (wz_co bm_119 (wz_co bm_120 (wz_co bm_2 (wz_in bm_121))))
theorem gX8_restore_X2_takeAll : GoodIn wzX8_restore (wsV RX8 287 RX2 yX2_takeAll wzX2_takeAll) := wz_co bm_948 (wz_co bm_949 (wz_co bm_950 (wz_co bm_15 (wz_in bm_951))))
theorem dS17_10 (x0 : Nat) : ∀ a k : Nat, ((x0 + 1) ≤ a ∧ a < (x0 + 1) + 27) → (a = x0 + 24 ∨ a = x0 + 27 ∨ (x0 + 58 ≤ a ∧ a ≤ x0 + 67) ∨ (x0 + 1 ≤ a ∧ a < x0 + 28)) := by intro a k h; omega
theorem dS17_11 (x0 : Nat) : ∀ a k : Nat, (a = (x0) + 65) → (a = x0 + 24 ∨ a = x0 + 27 ∨ (x0 + 58 ≤ a ∧ a ≤ x0 + 67) ∨ (x0 + 1 ≤ a ∧ a < x0 + 28)) := by intro a k h; omega
set_option maxHeartbeats 4000000 in
set_option maxRecDepth 100000 in
theorem c_X8_restore (l : Launch) (E : zz_E) (σ : zz_S) (h0 : Nat) (g0 : zz_L E h0) (hI : zz_IX σ h0) : Met l yX8_restore wzX8_restore ({ frames := 3, cells := 0, slots := 0, locals := 85 }) (va_Pc [.ref h0] (zz_B E σ)) (va_Qi (fun r σ1 => zz_ch (fun a k => a = h0 + 24 ∨ a = h0 + 27 ∨ (h0 + 58 ≤ a ∧ a ≤ h0 + 67) ∨ (h0 + 1 ≤ a ∧ a < h0 + 28)) σ σ1 ∧ (zz_IX σ1 h0 ∧ (((σ h0 2).toInt = 0 ∧ r.toInt = -1000000002 ∧ σ1 (h0 + 1) 0 = σ (h0 + 1) 0 ∧ σ1 (h0 + 1) 1 = σ (h0 + 1) 1 ∧ σ1 (h0 + 1) 2 = σ (h0 + 1) 2 ∧ σ1 (h0 + 1) 4 = σ (h0 + 1) 4 ∧ σ1 (h0 + 1) 6 = σ (h0 + 1) 6 ∧ σ1 (h0 + 1) 9 = σ (h0 + 1) 9 ∧ σ1 (h0 + 1) 11 = σ (h0 + 1) 11 ∧ zz_DX σ1 (h0 + 1) = zz_DX σ (h0 + 1) ∧ zz_PX 0 σ1 (h0 + 1) = zz_PX 0 σ (h0 + 1) ∧ zz_PX 1 σ1 (h0 + 1) = zz_PX 1 σ (h0 + 1) ∧ zz_XT σ1 (h0 + 1) = zz_XT σ (h0 + 1) ∧ zz_Tp σ1 (h0 + 1 + 4) (σ1 (h0 + 1) 9).toInt = zz_Tp σ (h0 + 1 + 4) (σ (h0 + 1) 9).toInt ∧ zy_wv σ1 (h0 + 1 + 5) 0 (σ1 (h0 + 1) 11).toInt = zy_wv σ (h0 + 1 + 5) 0 (σ (h0 + 1) 11).toInt) ∨ ((σ h0 2).toInt ≠ 0 ∧ r = σ (h0 + 28) 0 ∧ σ1 (h0 + 1) 0 = σ (h0 + 28) 0 ∧ σ1 (h0 + 1) 1 = σ (h0 + 28) 1 ∧ σ1 (h0 + 1) 2 = σ (h0 + 28) 2 ∧ σ1 (h0 + 1) 4 = σ (h0 + 28) 4 ∧ σ1 (h0 + 1) 6 = σ (h0 + 28) 6 ∧ σ1 (h0 + 1) 9 = σ (h0 + 28) 9 ∧ σ1 (h0 + 1) 11 = σ (h0 + 28) 11 ∧ zz_DX σ1 (h0 + 1) = zz_DX σ (h0 + 28) ∧ zz_PX 0 σ1 (h0 + 1) = zz_PX 0 σ (h0 + 28) ∧ zz_PX 1 σ1 (h0 + 1) = zz_PX 1 σ (h0 + 28) ∧ zz_XT σ1 (h0 + 1) = zz_XT σ (h0 + 28) ∧ zz_Tp σ1 (h0 + 1 + 4) (σ1 (h0 + 1) 9).toInt = zz_Tp σ (h0 + 28 + 4) (σ (h0 + 28) 9).toInt ∧ zy_wv σ1 (h0 + 1 + 5) 0 (σ1 (h0 + 1) 11).toInt = zy_wv σ (h0 + 28 + 5) 0 (σ (h0 + 28) 11).toInt)))) (zz_B E) (zz_A E)) 0 0 (zz_A E) := by
  refine zz_met (cc := cX8_restore) (maxL := 1) (ret := (some .int)) (by decide) rfl (Nat.le_of_ble_eq_true rfl) ?_
  intro p e s m args below meth c ls hx hb hr hts hown hlocks hml hK hP hS hl
  have hl : lv_has ls 1 [(0, .ref h0)] := hl
  have hown : s.vm.findClass RX8 = some m.cls := hown
  have hi2 : ∀ w ∈ wsX20, w ∈ wzX8_restore := fun w h => List.mem_cons_of_mem _ (hbw2 w h)
  have hi8 : ∀ w ∈ wsX80, w ∈ wzX8_restore := fun w h => List.mem_cons_of_mem _ (hbw8 w h)
  have k_0 : (0 : Int32).toInt = 0 := by decide +kernel
  have k_2 : (2 : Int32).toInt = 2 := by decide +kernel
  replace t0 : σ (h0 + 1) 0 = σ (h0 + 1) 0 := rfl
  replace t1 : σ (h0 + 1) 1 = σ (h0 + 1) 1 := rfl
  replace t2 : σ (h0 + 1) 2 = σ (h0 + 1) 2 := rfl
  replace t3 : σ (h0 + 1) 4 = σ (h0 + 1) 4 := rfl
  replace t4 : σ (h0 + 1) 6 = σ (h0 + 1) 6 := rfl
  replace t5 : σ (h0 + 1) 9 = σ (h0 + 1) 9 := rfl
  replace t6 : σ (h0 + 1) 11 = σ (h0 + 1) 11 := rfl
  have hC : zz_ch (fun a k => a = h0 + 24 ∨ a = h0 + 27 ∨ (h0 + 58 ≤ a ∧ a ≤ h0 + 67) ∨ (h0 + 1 ≤ a ∧ a < h0 + 28)) σ σ := zz_ch.rf σ
  obtain ⟨⟨hh, hsl, hd, hp, htc, hwc, ht, hft, hst, hid⟩, hkI, hsh, hspk⟩ := id hI
  refine lv_aload_n hx hb dX8_restore_0 rfl (lv_at hl 0 rfl) ?_
  refine zz_geti hx hb hts hi8 hown hK hP (g0.1) rfl 2 (by decide) (hts (.fieldLink RX8 291 "NoonLaw" "images" "I") (List.mem_cons_of_mem _ bm_947)) rfl rfl rfl dX8_restore_1 ?_
  refine lv_if_ne (tgt := 13) hx hb dX8_restore_4 (by decide) (fun c1 => ?_) (fun c1 => ?_)
  · have c1 := zz_neT c1
    refine lv_aload_n hx hb dX8_restore_13 rfl (lv_at hl 0 rfl) ?_
    refine zz_getr hx hb hts hi8 hown hK hP (g0.1) rfl 0 (by decide) (hts (.fieldLink RX8 10 "NoonLaw" "realm" "LNoonLaw$Realm;") (List.mem_cons_of_mem _ bm_16)) rfl rfl dX8_restore_14 ?_
    refine lv_aload_n hx hb dX8_restore_17 rfl (lv_at hl 0 rfl) ?_
    refine zz_getr hx hb hts hi8 hown hK hP (g0.1) rfl 1 (by decide) (hts (.fieldLink RX8 16 "NoonLaw" "kept" "LNoonLaw$Realm;") (List.mem_cons_of_mem _ bm_17)) rfl rfl dX8_restore_18 ?_
    refine zz_callVv (As := [.ref (h0 + 28)]) (rest := []) ⟨hx, hb, hml, hown, hts⟩ hK hP hS (c_X2_takeAll l E σ (h0 + 1) (h0 + 28) (g0.2.1) (g0.2.2.1) (by omega) (by exact hkI.2.2.2.2.2.2.1) (by exact hkI.2.2.2.2.2.2.2.1) (by exact hkI.2.2.2.2.2.2.2.2.1)) (cwV 1 hts gX8_restore_X2_takeAll rfl rfl rfl (by decide +kernel) ⟨Nat.le_of_ble_eq_true rfl, Nat.le_of_ble_eq_true rfl⟩) (g0.2.1.1) rfl rfl hl.1 rfl (Nat.le_of_ble_eq_true rfl) dX8_restore_21 ⟨Nat.zero_le _, Nat.zero_le _⟩ (fun σ2 H locs q2 hP1 hS1 => ?_)
    replace hP := hP1
    replace hS := hS1
    clear hP1 hS1
    try dsimp only at q2
    obtain ⟨w2, f2⟩ := q2
    replace hC := hC.tr (w2.mono (dS17_10 h0))
    replace t0 : σ2 (h0 + 1) 0 = σ (h0 + 28) 0 := f2.1
    replace t1 : σ2 (h0 + 1) 1 = σ (h0 + 28) 1 := f2.2.1
    replace t2 : σ2 (h0 + 1) 2 = σ (h0 + 28) 2 := f2.2.2.1
    replace t3 : σ2 (h0 + 1) 4 = σ (h0 + 28) 4 := f2.2.2.2.1
    replace t4 : σ2 (h0 + 1) 6 = σ (h0 + 28) 6 := f2.2.2.2.2.1
    replace t5 : σ2 (h0 + 1) 9 = σ (h0 + 28) 9 := f2.2.2.2.2.2.1
    replace t6 : σ2 (h0 + 1) 11 = σ (h0 + 28) 11 := f2.2.2.2.2.2.2.1
    refine lv_aload_n hx hb dX8_restore_24 rfl (lv_at hl 0 rfl) ?_
    refine zz_getr hx hb hts hi8 hown hK hP (g0.1) rfl 0 (by decide) (hts (.fieldLink RX8 10 "NoonLaw" "realm" "LNoonLaw$Realm;") (List.mem_cons_of_mem _ bm_16)) rfl rfl dX8_restore_25 ?_
    refine zz_geti hx hb hts hi2 hown hK hP (g0.2.1.1) rfl 0 (by decide) (hts (.fieldLink RX8 104 "NoonLaw$Realm" "hour" "I") (List.mem_cons_of_mem _ bm_166)) rfl rfl t0 dX8_restore_28 ?_
    exact zz_iret hx hb hr hlocks hK hP hS dX8_restore_31 (by exact ⟨hC, ⟨⟨by rw [t0]; exact hkI.1, by rw [t1]; exact hkI.2.1, by rw [t3]; exact hkI.2.2.1, by rw [t4]; exact hkI.2.2.2.1, by rw [t5]; exact hkI.2.2.2.2.1, by rw [t6]; exact hkI.2.2.2.2.2.1, f2.2.2.2.2.2.2.2.1, f2.2.2.2.2.2.2.2.2.1, f2.2.2.2.2.2.2.2.2.2.1, by rw [f2.2.2.2.2.2.2.2.2.2.2.1]; exact hkI.2.2.2.2.2.2.2.2.2⟩, (hkI.keep (fun k => hC _ _ (by first | (dsimp only; omega) | omega)) (fun k => hC _ _ (by first | (dsimp only; omega) | omega)) (fun j hj k => hC _ _ (by first | (dsimp only; omega) | omega)) (fun j hj f hf => hC _ _ (by first | (dsimp only; omega) | omega))), (fun j hj => by rw [hC _ _ (by first | (dsimp only; omega) | omega)]; exact hsh j hj), (by rw [hC _ _ (by first | (dsimp only; omega) | omega)]; exact hspk)⟩, Or.inr ⟨by omega, rfl, t0, t1, t2, t3, t4, t5, t6, f2.2.2.2.2.2.2.2.2.2.2.1, f2.2.2.2.2.2.2.2.2.2.2.2.1, f2.2.2.2.2.2.2.2.2.2.2.2.2.1, f2.2.2.2.2.2.2.2.2.2.2.2.2.2.1, (zz_Tp.eq (congrArg Int32.toInt t5) hkI.2.2.2.2.1.2 (fun k hk => f2.2.2.2.2.2.2.2.2.2.2.2.2.2.2.1 k hk)), (zy_wv.eq (congrArg Int32.toInt t6) (fun k hk => by rw [Nat.zero_add]; exact f2.2.2.2.2.2.2.2.2.2.2.2.2.2.2.2 k hk))⟩⟩)
  · have c1 := zz_eqT c1
    refine lv_aload_n hx hb dX8_restore_7 rfl (lv_at hl 0 rfl) ?_
    refine lv_iconst (v := 2) hx hb dX8_restore_8 (by decide) ?_
    refine zz_callVi (As := [.int 2]) (rest := []) ⟨hx, hb, hml, hown, hts⟩ hK hP hS (c_X8_refuse l E σ h0 2 g0 (by omega)) (cwV 1 hts gX8_restore_X8_refuse rfl rfl rfl (by decide +kernel) ⟨Nat.le_of_ble_eq_true rfl, Nat.le_of_ble_eq_true rfl⟩) (g0.1) rfl rfl hl.1 rfl (Nat.le_of_ble_eq_true rfl) dX8_restore_9 ⟨Nat.zero_le _, Nat.zero_le _⟩ (fun r3 σ3 H locs q3 hP1 hS1 => ?_)
    replace hP := hP1
    replace hS := hS1
    clear hP1 hS1
    try dsimp only at q3
    obtain ⟨w3, f3⟩ := q3
    replace hC := hC.tr (w3.mono (dS17_11 h0))
    replace t0 : σ3 (h0 + 1) 0 = σ (h0 + 1) 0 := (w3 (h0 + 1) 0 (dS17_5 h0)).trans t0
    replace t1 : σ3 (h0 + 1) 1 = σ (h0 + 1) 1 := (w3 (h0 + 1) 1 (dS17_5 h0)).trans t1
    replace t2 : σ3 (h0 + 1) 2 = σ (h0 + 1) 2 := (w3 (h0 + 1) 2 (dS17_5 h0)).trans t2
    replace t3 : σ3 (h0 + 1) 4 = σ (h0 + 1) 4 := (w3 (h0 + 1) 4 (dS17_5 h0)).trans t3
    replace t4 : σ3 (h0 + 1) 6 = σ (h0 + 1) 6 := (w3 (h0 + 1) 6 (dS17_5 h0)).trans t4
    replace t5 : σ3 (h0 + 1) 9 = σ (h0 + 1) 9 := (w3 (h0 + 1) 9 (dS17_5 h0)).trans t5
    replace t6 : σ3 (h0 + 1) 11 = σ (h0 + 1) 11 := (w3 (h0 + 1) 11 (dS17_5 h0)).trans t6
    exact zz_iret hx hb hr hlocks hK hP hS dX8_restore_12 (by exact ⟨hC, (hI.soft (w3.mono (by intro a k h; omega))), Or.inl ⟨by omega, by omega, t0, t1, t2, t3, t4, t5, t6, (by rw [zz_DXk (r := h0 + 1) w3 (by intro j hj k hk; first | (dsimp only; omega) | omega)]), (by rw [zz_PXk (f := 0) (r := h0 + 1) w3 (by intro j hj; first | (dsimp only; omega) | omega)]), (by rw [zz_PXk (f := 1) (r := h0 + 1) w3 (by intro j hj; first | (dsimp only; omega) | omega)]), (zz_XT.eq (fun u hu => w3 _ _ (by first | (dsimp only; omega) | omega)) (fun u hu => w3 _ _ (by first | (dsimp only; omega) | omega)) (fun u hu k _ => w3 _ _ (by first | (dsimp only; omega) | omega))), (zz_Tp.eq (congrArg Int32.toInt (w3 _ _ (by first | (dsimp only; omega) | omega))) htc.2 (fun k _ => w3 _ _ (by first | (dsimp only; omega) | omega))), zy_wv.eq (congrArg Int32.toInt t6) (fun k hk => w3 _ _ (by first | (dsimp only; omega) | omega))⟩⟩)
theorem gX8_put_X8_isSheet : GoodIn wzX8_put (va_wsS RX8 243 yX8_isSheet wzX8_isSheet) := wz_co bm_765 (wz_co bm_766 (wz_co bm_2 (wz_in bm_767)))
theorem gX8_put_X8_refuse : GoodIn wzX8_put (wsV RX8 68 RX8 yX8_refuse wzX8_refuse) := wz_co bm_118 (wz_co bm_119 (wz_co bm_120 (wz_co bm_2 (wz_in bm_121))))
theorem gX8_put_X8_within : GoodIn wzX8_put (va_wsS RX8 64 yX8_within wzX8_within) := wz_co bm_112 (wz_co bm_113 (wz_co bm_2 (wz_in bm_114)))
theorem gX8_put_X3_write : GoodIn wzX8_put (wsV RX8 269 RX3 yX3_write wzX3_write) := wz_co bm_902 (wz_co bm_903 (wz_co bm_904 (wz_co bm_37 (wz_in bm_905))))
theorem dS17_12 (x0 : Nat) : ∀ a k : Nat, (a = (x0) + 65) → (a = x0 + 24 ∨ a = x0 + 27 ∨ (x0 + 58 ≤ a ∧ a ≤ x0 + 67) ∨ a = x0 + 69 ∨ a = x0 + 71 ∨ a = x0 + 73 ∨ a = x0 + 75) := by intro a k h; omega
set_option maxHeartbeats 4000000 in
set_option maxRecDepth 100000 in
theorem c_X8_put (l : Launch) (E : zz_E) (σ : zz_S) (h0 : Nat) (sh : Int32) (ix : Int32) (v : Int32) (g0 : zz_L E h0) (hI : zz_IX σ h0) : Met l yX8_put wzX8_put ({ frames := 2, cells := 0, slots := 0, locals := 42 }) (va_Pc [.ref h0, .int sh, .int ix, .int v] (zz_B E σ)) (va_Qi (fun r σ1 => zz_ch (fun a k => a = h0 + 24 ∨ a = h0 + 27 ∨ (h0 + 58 ≤ a ∧ a ≤ h0 + 67) ∨ a = h0 + 69 ∨ a = h0 + 71 ∨ a = h0 + 73 ∨ a = h0 + 75) σ σ1 ∧ (zz_IX σ1 h0 ∧ (((sh.toInt < 0 ∨ 3 < sh.toInt) ∧ r.toInt = -1000000001 ∧ zz_CX σ1 h0 = zz_CX σ h0) ∨ ((0 ≤ sh.toInt ∧ sh.toInt ≤ 3) ∧ zz_HX 0 σ h0 sh.toInt.toNat = 0 ∧ r.toInt = -1000000002 ∧ zz_CX σ1 h0 = zz_CX σ h0) ∨ ((0 ≤ sh.toInt ∧ sh.toInt ≤ 3) ∧ zz_HX 0 σ h0 sh.toInt.toNat ≠ 0 ∧ (ix.toInt < 0 ∨ zz_HX 1 σ h0 sh.toInt.toNat ≤ ix.toInt) ∧ r.toInt = -1000000001 ∧ zz_CX σ1 h0 = zz_CX σ h0) ∨ ((0 ≤ sh.toInt ∧ sh.toInt ≤ 3) ∧ zz_HX 0 σ h0 sh.toInt.toNat ≠ 0 ∧ (0 ≤ ix.toInt ∧ ix.toInt < zz_HX 1 σ h0 sh.toInt.toNat) ∧ r.toInt = 1 ∧ zz_CX σ1 h0 = zz_ds (zz_CX σ h0) sh.toInt ix.toInt.toNat (zz_nb (zz_HX 0 σ h0 sh.toInt.toNat) v).toInt)))) (zz_B E) (zz_A E)) 0 0 (zz_A E) := by
  refine zz_met (cc := cX8_put) (maxL := 5) (ret := (some .int)) (by decide) rfl (Nat.le_of_ble_eq_true rfl) ?_
  intro p e s m args below meth c ls hx hb hr hts hown hlocks hml hK hP hS hl
  have hl : lv_has ls 5 [(0, .ref h0), (1, .int sh), (2, .int ix), (3, .int v)] := hl
  have hown : s.vm.findClass RX8 = some m.cls := hown
  have hi3 : ∀ w ∈ wsX30, w ∈ wzX8_put := fun w h => List.mem_cons_of_mem _ (hbw3 w h)
  have hi8 : ∀ w ∈ wsX80, w ∈ wzX8_put := fun w h => List.mem_cons_of_mem _ (hbw8 w h)
  have k_0 : (0 : Int32).toInt = 0 := by decide +kernel
  have k_1 : (1 : Int32).toInt = 1 := by decide +kernel
  have k_2 : (2 : Int32).toInt = 2 := by decide +kernel
  replace t0 : σ (h0 + 1) 0 = σ (h0 + 1) 0 := rfl
  replace t1 : σ (h0 + 1) 1 = σ (h0 + 1) 1 := rfl
  replace t2 : σ (h0 + 1) 4 = σ (h0 + 1) 4 := rfl
  replace t3 : σ (h0 + 1) 6 = σ (h0 + 1) 6 := rfl
  have hC : zz_ch (fun a k => a = h0 + 24 ∨ a = h0 + 27 ∨ (h0 + 58 ≤ a ∧ a ≤ h0 + 67) ∨ a = h0 + 69 ∨ a = h0 + 71 ∨ a = h0 + 73 ∨ a = h0 + 75) σ σ := zz_ch.rf σ
  obtain ⟨⟨hh, hsl, hd, hp, htc, hwc, ht, hft, hst, hid⟩, hkI, hsh, hspk⟩ := id hI
  refine lv_iload_n hx hb dX8_put_0 rfl (lv_at hl 1 rfl) ?_
  refine zz_callSp (As := [.int sh]) (rest := []) ⟨hx, hb, hml, hown, hts⟩ hK hP hS (c_X8_isSheet l E σ sh) (va_cwS 1 hts gX8_put_X8_isSheet rfl rfl rfl (by decide +kernel) ⟨Nat.le_of_ble_eq_true rfl, Nat.le_of_ble_eq_true rfl⟩) rfl hl.1 rfl (Nat.le_of_ble_eq_true rfl) dX8_put_1 ⟨Nat.zero_le _, Nat.zero_le _⟩ (fun r1 H locs f1 hP1 hS1 => ?_)
  replace hP := hP1
  replace hS := hS1
  clear hP1 hS1
  refine lv_if_ne (tgt := 13) hx hb dX8_put_4 (by decide) (fun c2 => ?_) (fun c2 => ?_)
  · have c2 := zz_neT c2
    refine lv_aload_n hx hb dX8_put_13 rfl (lv_at hl 0 rfl) ?_
    refine zz_getr hx hb hts hi8 hown hK hP (g0.1) rfl 3 (by decide) (hts (.fieldLink RX8 21 "NoonLaw" "sheets" "[LNoonLaw$Sheet;") (List.mem_cons_of_mem _ bm_19)) rfl rfl dX8_put_14 ?_
    refine lv_iload_n hx hb dX8_put_17 rfl (lv_at hl 1 rfl) ?_
    refine zz_aald hx hb hK hP (g0.2.2.2.1) rfl (by omega) (by omega) dX8_put_18 (fun j3 q3 r3 => ?_)
    refine lv_astore (lv' := [(4, .ref (h0 + 68 + 2 * j3)), (0, .ref h0), (1, .int sh), (2, .int ix), (3, .int v)]) hx hb dX8_put_19 hl (by decide) rfl (fun ls hl => ?_)
    have hs9 := hsh j3 r3
    have hxsh0 : zz_HX 0 σ h0 sh.toInt.toNat = (σ (h0 + 68 + 2 * j3) 0).toInt := by rw [show sh.toInt.toNat = j3 from by omega]; exact zz_HX.at r3
    have hxsh1 : zz_HX 1 σ h0 sh.toInt.toNat = (σ (h0 + 68 + 2 * j3) 1).toInt := by rw [show sh.toInt.toNat = j3 from by omega]; exact zz_HX.at r3
    replace t4 : σ (h0 + 68 + 2 * j3) 1 = σ (h0 + 68 + 2 * j3) 1 := rfl
    refine lv_aload hx hb dX8_put_21 (lv_at hl 0 rfl) ?_
    refine zz_geti hx hb hts hi3 hown hK hP ((g0.2.2.2.2.1 j3 r3).1) rfl 0 (by decide) (hts (.fieldLink RX8 246 "NoonLaw$Sheet" "bits" "I") (List.mem_cons_of_mem _ bm_763)) rfl rfl rfl dX8_put_23 ?_
    refine lv_if_ne (tgt := 35) hx hb dX8_put_26 (by decide) (fun c4 => ?_) (fun c4 => ?_)
    · have c4 := zz_neT c4
      refine lv_iload_n hx hb dX8_put_35 rfl (lv_at hl 3 rfl) ?_
      refine lv_iconst (v := 0) hx hb dX8_put_36 (by decide) ?_
      refine lv_aload hx hb dX8_put_37 (lv_at hl 0 rfl) ?_
      refine zz_geti hx hb hts hi3 hown hK hP ((g0.2.2.2.2.1 j3 r3).1) rfl 1 (by decide) (hts (.fieldLink RX8 249 "NoonLaw$Sheet" "length" "I") (List.mem_cons_of_mem _ bm_764)) rfl rfl t4 dX8_put_39 ?_
      refine lv_iconst (v := 1) hx hb dX8_put_42 (by decide) ?_
      refine lv_isub hx hb dX8_put_43 ?_
      refine lv_topi (fun n5 e5 => ?_)
      have f5 : n5.toInt = (σ (h0 + 68 + 2 * j3) 1).toInt - (1 : Int32).toInt := zz_subT e5 (by omega) (by omega)
      refine zz_callSp (As := [.int ix, .int 0, .int n5]) (rest := []) ⟨hx, hb, hml, hown, hts⟩ hK hP hS (c_X8_within l E σ ix 0 n5) (va_cwS 3 hts gX8_put_X8_within rfl rfl rfl (by decide +kernel) ⟨Nat.le_of_ble_eq_true rfl, Nat.le_of_ble_eq_true rfl⟩) rfl hl.1 rfl (Nat.le_of_ble_eq_true rfl) dX8_put_44 ⟨Nat.zero_le _, Nat.zero_le _⟩ (fun r6 H locs f6 hP1 hS1 => ?_)
      replace hP := hP1
      replace hS := hS1
      clear hP1 hS1
      refine lv_if_ne (tgt := 56) hx hb dX8_put_47 (by decide) (fun c7 => ?_) (fun c7 => ?_)
      · have c7 := zz_neT c7
        refine lv_aload hx hb dX8_put_56 (lv_at hl 0 rfl) ?_
        refine lv_iload_n hx hb dX8_put_58 rfl (lv_at hl 3 rfl) ?_
        refine lv_iload_n hx hb dX8_put_59 rfl (lv_at hl 4 rfl) ?_
        refine zz_callVv (As := [.int ix, .int v]) (rest := []) ⟨hx, hb, hml, hown, hts⟩ hK hP hS (c_X3_write l E σ (h0 + 68 + 2 * j3) ix v (g0.2.2.2.2.1 j3 r3) (by omega)) (cwV 2 hts gX8_put_X3_write rfl rfl rfl (by decide +kernel) ⟨Nat.le_of_ble_eq_true rfl, Nat.le_of_ble_eq_true rfl⟩) ((g0.2.2.2.2.1 j3 r3).1) rfl rfl hl.1 rfl (Nat.le_of_ble_eq_true rfl) dX8_put_60 ⟨Nat.zero_le _, Nat.zero_le _⟩ (fun σ8 H locs q8 hP1 hS1 => ?_)
        replace hP := hP1
        replace hS := hS1
        clear hP1 hS1
        try dsimp only at q8
        obtain ⟨w8, f8⟩ := q8
        replace hC := hC.tr (w8.mono (by intro a k h; first | (dsimp only at h ⊢; omega) | omega | (dsimp only at h; omega) | (dsimp only; omega)))
        replace t0 : σ8 (h0 + 1) 0 = σ (h0 + 1) 0 := (w8 _ _ (by first | (dsimp only; omega) | omega)).trans t0
        replace t1 : σ8 (h0 + 1) 1 = σ (h0 + 1) 1 := (w8 _ _ (by first | (dsimp only; omega) | omega)).trans t1
        replace t2 : σ8 (h0 + 1) 4 = σ (h0 + 1) 4 := (w8 _ _ (by first | (dsimp only; omega) | omega)).trans t2
        replace t3 : σ8 (h0 + 1) 6 = σ (h0 + 1) 6 := (w8 _ _ (by first | (dsimp only; omega) | omega)).trans t3
        replace t4 : σ8 (h0 + 68 + 2 * j3) 1 = σ (h0 + 68 + 2 * j3) 1 := (w8 _ _ (by first | (dsimp only; omega) | omega)).trans t4
        refine lv_iconst (v := 1) hx hb dX8_put_63 (by decide) ?_
        exact zz_iret hx hb hr hlocks hK hP hS dX8_put_64 (by exact ⟨hC, ⟨(hI.1.keep (fun k => hC _ _ (by first | (dsimp only; omega) | omega)) (fun k => hC _ _ (by first | (dsimp only; omega) | omega)) (fun j hj k => hC _ _ (by first | (dsimp only; omega) | omega)) (fun j hj f hf => hC _ _ (by first | (dsimp only; omega) | omega))), (hkI.keep (fun k => hC _ _ (by first | (dsimp only; omega) | omega)) (fun k => hC _ _ (by first | (dsimp only; omega) | omega)) (fun j hj k => hC _ _ (by first | (dsimp only; omega) | omega)) (fun j hj f hf => hC _ _ (by first | (dsimp only; omega) | omega))), (fun j hj => by rw [hC _ _ (by first | (dsimp only; omega) | omega)]; exact hsh j hj), (by rw [hC _ _ (by first | (dsimp only; omega) | omega)]; exact hspk)⟩, Or.inr (Or.inr (Or.inr (⟨by omega, by omega, by omega, by omega, by rw [hxsh0]; exact zz_CXw f8 q3 r3 (by omega) rfl⟩)))⟩)
      · have c7 := zz_eqT c7
        refine lv_aload_n hx hb dX8_put_50 rfl (lv_at hl 1 rfl) ?_
        refine lv_iconst (v := 1) hx hb dX8_put_51 (by decide) ?_
        refine zz_callVi (As := [.int 1]) (rest := []) ⟨hx, hb, hml, hown, hts⟩ hK hP hS (c_X8_refuse l E σ h0 1 g0 (by omega)) (cwV 1 hts gX8_put_X8_refuse rfl rfl rfl (by decide +kernel) ⟨Nat.le_of_ble_eq_true rfl, Nat.le_of_ble_eq_true rfl⟩) (g0.1) rfl rfl hl.1 rfl (Nat.le_of_ble_eq_true rfl) dX8_put_52 ⟨Nat.zero_le _, Nat.zero_le _⟩ (fun r9 σ9 H locs q9 hP1 hS1 => ?_)
        replace hP := hP1
        replace hS := hS1
        clear hP1 hS1
        try dsimp only at q9
        obtain ⟨w9, f9⟩ := q9
        replace hC := hC.tr (w9.mono (dS17_12 h0))
        replace t0 : σ9 (h0 + 1) 0 = σ (h0 + 1) 0 := (w9 (h0 + 1) 0 (dS17_5 h0)).trans t0
        replace t1 : σ9 (h0 + 1) 1 = σ (h0 + 1) 1 := (w9 (h0 + 1) 1 (dS17_5 h0)).trans t1
        replace t2 : σ9 (h0 + 1) 4 = σ (h0 + 1) 4 := (w9 (h0 + 1) 4 (dS17_5 h0)).trans t2
        replace t3 : σ9 (h0 + 1) 6 = σ (h0 + 1) 6 := (w9 (h0 + 1) 6 (dS17_5 h0)).trans t3
        replace t4 : σ9 (h0 + 68 + 2 * j3) 1 = σ (h0 + 68 + 2 * j3) 1 := (w9 _ _ (by first | (dsimp only; omega) | omega)).trans t4
        exact zz_iret hx hb hr hlocks hK hP hS dX8_put_55 (by exact ⟨hC, (hI.soft (w9.mono (by intro a k h; omega))), Or.inr (Or.inr (Or.inl ⟨by omega, by omega, by omega, by omega, (zz_CX.eq (fun j hj k hk => w9 _ _ (by first | (dsimp only; omega) | omega)))⟩))⟩)
    · have c4 := zz_eqT c4
      refine lv_aload_n hx hb dX8_put_29 rfl (lv_at hl 1 rfl) ?_
      refine lv_iconst (v := 2) hx hb dX8_put_30 (by decide) ?_
      refine zz_callVi (As := [.int 2]) (rest := []) ⟨hx, hb, hml, hown, hts⟩ hK hP hS (c_X8_refuse l E σ h0 2 g0 (by omega)) (cwV 1 hts gX8_put_X8_refuse rfl rfl rfl (by decide +kernel) ⟨Nat.le_of_ble_eq_true rfl, Nat.le_of_ble_eq_true rfl⟩) (g0.1) rfl rfl hl.1 rfl (Nat.le_of_ble_eq_true rfl) dX8_put_31 ⟨Nat.zero_le _, Nat.zero_le _⟩ (fun r10 σ10 H locs q10 hP1 hS1 => ?_)
      replace hP := hP1
      replace hS := hS1
      clear hP1 hS1
      try dsimp only at q10
      obtain ⟨w10, f10⟩ := q10
      replace hC := hC.tr (w10.mono (dS17_12 h0))
      replace t0 : σ10 (h0 + 1) 0 = σ (h0 + 1) 0 := (w10 (h0 + 1) 0 (dS17_5 h0)).trans t0
      replace t1 : σ10 (h0 + 1) 1 = σ (h0 + 1) 1 := (w10 (h0 + 1) 1 (dS17_5 h0)).trans t1
      replace t2 : σ10 (h0 + 1) 4 = σ (h0 + 1) 4 := (w10 (h0 + 1) 4 (dS17_5 h0)).trans t2
      replace t3 : σ10 (h0 + 1) 6 = σ (h0 + 1) 6 := (w10 (h0 + 1) 6 (dS17_5 h0)).trans t3
      replace t4 : σ10 (h0 + 68 + 2 * j3) 1 = σ (h0 + 68 + 2 * j3) 1 := (w10 _ _ (by first | (dsimp only; omega) | omega)).trans t4
      exact zz_iret hx hb hr hlocks hK hP hS dX8_put_34 (by exact ⟨hC, (hI.soft (w10.mono (by intro a k h; omega))), Or.inr (Or.inl ⟨by omega, by omega, by omega, (zz_CX.eq (fun j hj k hk => w10 _ _ (by first | (dsimp only; omega) | omega)))⟩)⟩)
  · have c2 := zz_eqT c2
    refine lv_aload_n hx hb dX8_put_7 rfl (lv_at hl 0 rfl) ?_
    refine lv_iconst (v := 1) hx hb dX8_put_8 (by decide) ?_
    refine zz_callVi (As := [.int 1]) (rest := []) ⟨hx, hb, hml, hown, hts⟩ hK hP hS (c_X8_refuse l E σ h0 1 g0 (by omega)) (cwV 1 hts gX8_put_X8_refuse rfl rfl rfl (by decide +kernel) ⟨Nat.le_of_ble_eq_true rfl, Nat.le_of_ble_eq_true rfl⟩) (g0.1) rfl rfl hl.1 rfl (Nat.le_of_ble_eq_true rfl) dX8_put_9 ⟨Nat.zero_le _, Nat.zero_le _⟩ (fun r11 σ11 H locs q11 hP1 hS1 => ?_)
    replace hP := hP1
    replace hS := hS1
    clear hP1 hS1
    try dsimp only at q11
    obtain ⟨w11, f11⟩ := q11
    replace hC := hC.tr (w11.mono (dS17_12 h0))
    replace t0 : σ11 (h0 + 1) 0 = σ (h0 + 1) 0 := (w11 (h0 + 1) 0 (dS17_5 h0)).trans t0
    replace t1 : σ11 (h0 + 1) 1 = σ (h0 + 1) 1 := (w11 (h0 + 1) 1 (dS17_5 h0)).trans t1
    replace t2 : σ11 (h0 + 1) 4 = σ (h0 + 1) 4 := (w11 (h0 + 1) 4 (dS17_5 h0)).trans t2
    replace t3 : σ11 (h0 + 1) 6 = σ (h0 + 1) 6 := (w11 (h0 + 1) 6 (dS17_5 h0)).trans t3
    exact zz_iret hx hb hr hlocks hK hP hS dX8_put_12 (by exact ⟨hC, (hI.soft (w11.mono (by intro a k h; omega))), Or.inl ⟨by omega, by omega, (zz_CX.eq (fun j hj k hk => w11 _ _ (by first | (dsimp only; omega) | omega)))⟩⟩)
theorem gX8_move_X8_isSheet : GoodIn wzX8_move (va_wsS RX8 243 yX8_isSheet wzX8_isSheet) := wz_co bm_765 (wz_co bm_766 (wz_co bm_2 (wz_in bm_767)))
theorem gX8_move_X8_refuse : GoodIn wzX8_move (wsV RX8 68 RX8 yX8_refuse wzX8_refuse) := wz_co bm_118 (wz_co bm_119 (wz_co bm_120 (wz_co bm_2 (wz_in bm_121))))
theorem gX8_move_X3_holds : GoodIn wzX8_move (wsV RX8 272 RX3 yX3_holds wzX3_holds) := wz_co bm_915 (wz_co bm_916 (wz_co bm_917 (wz_co bm_37 (wz_in bm_918))))
set_option maxHeartbeats 4000000 in
set_option maxRecDepth 100000 in
theorem c_X8_move (l : Launch) (E : zz_E) (σ : zz_S) (h0 : Nat) (sh : Int32) (ix : Int32) (ot : Int32) (jx : Int32) (nn : Int32) (g0 : zz_L E h0) (hI : zz_IX σ h0) : Met l yX8_move wzX8_move ({ frames := 2, cells := 0, slots := 0, locals := 42 }) (va_Pc [.ref h0, .int sh, .int ix, .int ot, .int jx, .int nn] (zz_B E σ)) (va_Qi (fun r σ1 => zz_ch (fun a k => a = h0 + 24 ∨ a = h0 + 27 ∨ (h0 + 58 ≤ a ∧ a ≤ h0 + 67) ∨ a = h0 + 69 ∨ a = h0 + 71 ∨ a = h0 + 73 ∨ a = h0 + 75) σ σ1 ∧ (zz_IX σ1 h0 ∧ ((¬ ((0 ≤ sh.toInt ∧ sh.toInt ≤ 3) ∧ 0 ≤ ot.toInt ∧ ot.toInt ≤ 3) ∧ r.toInt = -1000000001 ∧ zz_CX σ1 h0 = zz_CX σ h0) ∨ (((0 ≤ sh.toInt ∧ sh.toInt ≤ 3) ∧ 0 ≤ ot.toInt ∧ ot.toInt ≤ 3) ∧ (zz_HX 0 σ h0 sh.toInt.toNat = 0 ∨ zz_HX 0 σ h0 ot.toInt.toNat = 0) ∧ r.toInt = -1000000002 ∧ zz_CX σ1 h0 = zz_CX σ h0) ∨ (((0 ≤ sh.toInt ∧ sh.toInt ≤ 3) ∧ 0 ≤ ot.toInt ∧ ot.toInt ≤ 3) ∧ (zz_HX 0 σ h0 sh.toInt.toNat ≠ 0 ∧ zz_HX 0 σ h0 ot.toInt.toNat ≠ 0 ∧ zz_HX 0 σ h0 sh.toInt.toNat ≠ zz_HX 0 σ h0 ot.toInt.toNat) ∧ r.toInt = -1000000005 ∧ zz_CX σ1 h0 = zz_CX σ h0) ∨ (((0 ≤ sh.toInt ∧ sh.toInt ≤ 3) ∧ 0 ≤ ot.toInt ∧ ot.toInt ≤ 3) ∧ (zz_HX 0 σ h0 sh.toInt.toNat ≠ 0 ∧ zz_HX 0 σ h0 sh.toInt.toNat = zz_HX 0 σ h0 ot.toInt.toNat ∧ ¬ (0 ≤ nn.toInt ∧ 0 ≤ ix.toInt ∧ 0 ≤ jx.toInt ∧ ix.toInt + nn.toInt ≤ zz_HX 1 σ h0 sh.toInt.toNat ∧ jx.toInt + nn.toInt ≤ zz_HX 1 σ h0 ot.toInt.toNat)) ∧ r.toInt = -1000000001 ∧ zz_CX σ1 h0 = zz_CX σ h0) ∨ (((0 ≤ sh.toInt ∧ sh.toInt ≤ 3) ∧ 0 ≤ ot.toInt ∧ ot.toInt ≤ 3) ∧ (zz_HX 0 σ h0 sh.toInt.toNat ≠ 0 ∧ zz_HX 0 σ h0 sh.toInt.toNat = zz_HX 0 σ h0 ot.toInt.toNat ∧ (0 ≤ nn.toInt ∧ 0 ≤ ix.toInt ∧ 0 ≤ jx.toInt ∧ ix.toInt + nn.toInt ≤ zz_HX 1 σ h0 sh.toInt.toNat ∧ jx.toInt + nn.toInt ≤ zz_HX 1 σ h0 ot.toInt.toNat)) ∧ r.toInt = nn.toInt ∧ zz_CX σ1 h0 = zz_mv (zz_CX σ h0) sh.toInt ix.toInt ot.toInt jx.toInt nn.toInt)))) (zz_B E) (zz_A E)) 0 0 (zz_A E) := by
  refine zz_met (cc := cX8_move) (maxL := 8) (ret := (some .int)) (by decide) rfl (Nat.le_of_ble_eq_true rfl) ?_
  intro p e s m args below meth c ls hx hb hr hts hown hlocks hml hK hP hS hl
  have hl : lv_has ls 8 [(0, .ref h0), (1, .int sh), (2, .int ix), (3, .int ot), (4, .int jx), (5, .int nn)] := hl
  have hown : s.vm.findClass RX8 = some m.cls := hown
  have hi3 : ∀ w ∈ wsX30, w ∈ wzX8_move := fun w h => List.mem_cons_of_mem _ (hbw3 w h)
  have hi8 : ∀ w ∈ wsX80, w ∈ wzX8_move := fun w h => List.mem_cons_of_mem _ (hbw8 w h)
  have k_0 : (0 : Int32).toInt = 0 := by decide +kernel
  have k_1 : (1 : Int32).toInt = 1 := by decide +kernel
  have k_2 : (2 : Int32).toInt = 2 := by decide +kernel
  have k_5 : (5 : Int32).toInt = 5 := by decide +kernel
  replace t0 : σ (h0 + 1) 0 = σ (h0 + 1) 0 := rfl
  replace t1 : σ (h0 + 1) 1 = σ (h0 + 1) 1 := rfl
  replace t2 : σ (h0 + 1) 4 = σ (h0 + 1) 4 := rfl
  replace t3 : σ (h0 + 1) 6 = σ (h0 + 1) 6 := rfl
  have hC : zz_ch (fun a k => a = h0 + 24 ∨ a = h0 + 27 ∨ (h0 + 58 ≤ a ∧ a ≤ h0 + 67) ∨ a = h0 + 69 ∨ a = h0 + 71 ∨ a = h0 + 73 ∨ a = h0 + 75) σ σ := zz_ch.rf σ
  obtain ⟨⟨hh, hsl, hd, hp, htc, hwc, ht, hft, hst, hid⟩, hkI, hsh, hspk⟩ := id hI
  refine lv_iload_n hx hb dX8_move_0 rfl (lv_at hl 1 rfl) ?_
  refine zz_callSp (As := [.int sh]) (rest := []) ⟨hx, hb, hml, hown, hts⟩ hK hP hS (c_X8_isSheet l E σ sh) (va_cwS 1 hts gX8_move_X8_isSheet rfl rfl rfl (by decide +kernel) ⟨Nat.le_of_ble_eq_true rfl, Nat.le_of_ble_eq_true rfl⟩) rfl hl.1 rfl (Nat.le_of_ble_eq_true rfl) dX8_move_1 ⟨Nat.zero_le _, Nat.zero_le _⟩ (fun r1 H locs f1 hP1 hS1 => ?_)
  replace hP := hP1
  replace hS := hS1
  clear hP1 hS1
  refine lv_if_eq (tgt := 14) hx hb dX8_move_4 (by decide) (fun c2 => ?_) (fun c2 => ?_)
  · have c2 := zz_eqT c2
    refine lv_aload_n hx hb dX8_move_14 rfl (lv_at hl 0 rfl) ?_
    refine lv_iconst (v := 1) hx hb dX8_move_15 (by decide) ?_
    refine zz_callVi (As := [.int 1]) (rest := []) ⟨hx, hb, hml, hown, hts⟩ hK hP hS (c_X8_refuse l E σ h0 1 g0 (by omega)) (cwV 1 hts gX8_move_X8_refuse rfl rfl rfl (by decide +kernel) ⟨Nat.le_of_ble_eq_true rfl, Nat.le_of_ble_eq_true rfl⟩) (g0.1) rfl rfl hl.1 rfl (Nat.le_of_ble_eq_true rfl) dX8_move_16 ⟨Nat.zero_le _, Nat.zero_le _⟩ (fun r3 σ3 H locs q3 hP1 hS1 => ?_)
    replace hP := hP1
    replace hS := hS1
    clear hP1 hS1
    try dsimp only at q3
    obtain ⟨w3, f3⟩ := q3
    replace hC := hC.tr (w3.mono (dS17_12 h0))
    replace t0 : σ3 (h0 + 1) 0 = σ (h0 + 1) 0 := (w3 (h0 + 1) 0 (dS17_5 h0)).trans t0
    replace t1 : σ3 (h0 + 1) 1 = σ (h0 + 1) 1 := (w3 (h0 + 1) 1 (dS17_5 h0)).trans t1
    replace t2 : σ3 (h0 + 1) 4 = σ (h0 + 1) 4 := (w3 (h0 + 1) 4 (dS17_5 h0)).trans t2
    replace t3 : σ3 (h0 + 1) 6 = σ (h0 + 1) 6 := (w3 (h0 + 1) 6 (dS17_5 h0)).trans t3
    exact zz_iret hx hb hr hlocks hK hP hS dX8_move_19 (by exact ⟨hC, (hI.soft (w3.mono (by intro a k h; omega))), Or.inl ⟨by omega, by omega, (zz_CX.eq (fun j hj k hk => w3 _ _ (by first | (dsimp only; omega) | omega)))⟩⟩)
  · have c2 := zz_neT c2
    refine lv_iload_n hx hb dX8_move_7 rfl (lv_at hl 3 rfl) ?_
    refine zz_callSp (As := [.int ot]) (rest := []) ⟨hx, hb, hml, hown, hts⟩ hK hP hS (c_X8_isSheet l E σ ot) (va_cwS 1 hts gX8_move_X8_isSheet rfl rfl rfl (by decide +kernel) ⟨Nat.le_of_ble_eq_true rfl, Nat.le_of_ble_eq_true rfl⟩) rfl hl.1 rfl (Nat.le_of_ble_eq_true rfl) dX8_move_8 ⟨Nat.zero_le _, Nat.zero_le _⟩ (fun r4 H locs f4 hP1 hS1 => ?_)
    replace hP := hP1
    replace hS := hS1
    clear hP1 hS1
    refine lv_if_ne (tgt := 20) hx hb dX8_move_11 (by decide) (fun c5 => ?_) (fun c5 => ?_)
    · have c5 := zz_neT c5
      refine lv_aload_n hx hb dX8_move_20 rfl (lv_at hl 0 rfl) ?_
      refine zz_getr hx hb hts hi8 hown hK hP (g0.1) rfl 3 (by decide) (hts (.fieldLink RX8 21 "NoonLaw" "sheets" "[LNoonLaw$Sheet;") (List.mem_cons_of_mem _ bm_19)) rfl rfl dX8_move_21 ?_
      refine lv_iload_n hx hb dX8_move_24 rfl (lv_at hl 1 rfl) ?_
      refine zz_aald hx hb hK hP (g0.2.2.2.1) rfl (by omega) (by omega) dX8_move_25 (fun j6 q6 r6 => ?_)
      refine lv_astore (lv' := [(6, .ref (h0 + 68 + 2 * j6)), (0, .ref h0), (1, .int sh), (2, .int ix), (3, .int ot), (4, .int jx), (5, .int nn)]) hx hb dX8_move_26 hl (by decide) rfl (fun ls hl => ?_)
      refine lv_aload_n hx hb dX8_move_28 rfl (lv_at hl 1 rfl) ?_
      refine zz_getr hx hb hts hi8 hown hK hP (g0.1) rfl 3 (by decide) (hts (.fieldLink RX8 21 "NoonLaw" "sheets" "[LNoonLaw$Sheet;") (List.mem_cons_of_mem _ bm_19)) rfl rfl dX8_move_29 ?_
      refine lv_iload_n hx hb dX8_move_32 rfl (lv_at hl 4 rfl) ?_
      refine zz_aald hx hb hK hP (g0.2.2.2.1) rfl (by omega) (by omega) dX8_move_33 (fun j7 q7 r7 => ?_)
      refine lv_astore (lv' := [(7, .ref (h0 + 68 + 2 * j7)), (6, .ref (h0 + 68 + 2 * j6)), (0, .ref h0), (1, .int sh), (2, .int ix), (3, .int ot), (4, .int jx), (5, .int nn)]) hx hb dX8_move_34 hl (by decide) rfl (fun ls hl => ?_)
      have hs8 := hsh j6 r6
      have hs9 := hsh j7 r7
      have hxsh0 : zz_HX 0 σ h0 sh.toInt.toNat = (σ (h0 + 68 + 2 * j6) 0).toInt := by rw [show sh.toInt.toNat = j6 from by omega]; exact zz_HX.at r6
      have hxsh1 : zz_HX 1 σ h0 sh.toInt.toNat = (σ (h0 + 68 + 2 * j6) 1).toInt := by rw [show sh.toInt.toNat = j6 from by omega]; exact zz_HX.at r6
      have hxot0 : zz_HX 0 σ h0 ot.toInt.toNat = (σ (h0 + 68 + 2 * j7) 0).toInt := by rw [show ot.toInt.toNat = j7 from by omega]; exact zz_HX.at r7
      have hxot1 : zz_HX 1 σ h0 ot.toInt.toNat = (σ (h0 + 68 + 2 * j7) 1).toInt := by rw [show ot.toInt.toNat = j7 from by omega]; exact zz_HX.at r7
      refine lv_aload hx hb dX8_move_36 (lv_at hl 1 rfl) ?_
      refine zz_geti hx hb hts hi3 hown hK hP ((g0.2.2.2.2.1 j6 r6).1) rfl 0 (by decide) (hts (.fieldLink RX8 246 "NoonLaw$Sheet" "bits" "I") (List.mem_cons_of_mem _ bm_763)) rfl rfl rfl dX8_move_38 ?_
      refine lv_if_eq (tgt := 52) hx hb dX8_move_41 (by decide) (fun c8 => ?_) (fun c8 => ?_)
      · have c8 := zz_eqT c8
        refine lv_aload_n hx hb dX8_move_52 rfl (lv_at hl 2 rfl) ?_
        refine lv_iconst (v := 2) hx hb dX8_move_53 (by decide) ?_
        refine zz_callVi (As := [.int 2]) (rest := []) ⟨hx, hb, hml, hown, hts⟩ hK hP hS (c_X8_refuse l E σ h0 2 g0 (by omega)) (cwV 1 hts gX8_move_X8_refuse rfl rfl rfl (by decide +kernel) ⟨Nat.le_of_ble_eq_true rfl, Nat.le_of_ble_eq_true rfl⟩) (g0.1) rfl rfl hl.1 rfl (Nat.le_of_ble_eq_true rfl) dX8_move_54 ⟨Nat.zero_le _, Nat.zero_le _⟩ (fun r9 σ9 H locs q9 hP1 hS1 => ?_)
        replace hP := hP1
        replace hS := hS1
        clear hP1 hS1
        try dsimp only at q9
        obtain ⟨w9, f9⟩ := q9
        replace hC := hC.tr (w9.mono (dS17_12 h0))
        replace t0 : σ9 (h0 + 1) 0 = σ (h0 + 1) 0 := (w9 (h0 + 1) 0 (dS17_5 h0)).trans t0
        replace t1 : σ9 (h0 + 1) 1 = σ (h0 + 1) 1 := (w9 (h0 + 1) 1 (dS17_5 h0)).trans t1
        replace t2 : σ9 (h0 + 1) 4 = σ (h0 + 1) 4 := (w9 (h0 + 1) 4 (dS17_5 h0)).trans t2
        replace t3 : σ9 (h0 + 1) 6 = σ (h0 + 1) 6 := (w9 (h0 + 1) 6 (dS17_5 h0)).trans t3
        exact zz_iret hx hb hr hlocks hK hP hS dX8_move_57 (by exact ⟨hC, (hI.soft (w9.mono (by intro a k h; omega))), Or.inr (Or.inl ⟨by omega, by omega, by omega, (zz_CX.eq (fun j hj k hk => w9 _ _ (by first | (dsimp only; omega) | omega)))⟩)⟩)
      · have c8 := zz_neT c8
        refine lv_aload hx hb dX8_move_44 (lv_at hl 0 rfl) ?_
        refine zz_geti hx hb hts hi3 hown hK hP ((g0.2.2.2.2.1 j7 r7).1) rfl 0 (by decide) (hts (.fieldLink RX8 246 "NoonLaw$Sheet" "bits" "I") (List.mem_cons_of_mem _ bm_763)) rfl rfl rfl dX8_move_46 ?_
        refine lv_if_ne (tgt := 58) hx hb dX8_move_49 (by decide) (fun c10 => ?_) (fun c10 => ?_)
        · have c10 := zz_neT c10
          refine lv_aload hx hb dX8_move_58 (lv_at hl 1 rfl) ?_
          refine zz_geti hx hb hts hi3 hown hK hP ((g0.2.2.2.2.1 j6 r6).1) rfl 0 (by decide) (hts (.fieldLink RX8 246 "NoonLaw$Sheet" "bits" "I") (List.mem_cons_of_mem _ bm_763)) rfl rfl rfl dX8_move_60 ?_
          refine lv_aload hx hb dX8_move_63 (lv_at hl 0 rfl) ?_
          refine zz_geti hx hb hts hi3 hown hK hP ((g0.2.2.2.2.1 j7 r7).1) rfl 0 (by decide) (hts (.fieldLink RX8 246 "NoonLaw$Sheet" "bits" "I") (List.mem_cons_of_mem _ bm_763)) rfl rfl rfl dX8_move_65 ?_
          refine lv_icmp_eq (tgt := 77) hx hb dX8_move_68 (by decide) (fun c11 => ?_) (fun c11 => ?_)
          · have c11 := zz_eqT c11
            refine lv_aload hx hb dX8_move_77 (lv_at hl 1 rfl) ?_
            refine lv_iload_n hx hb dX8_move_79 rfl (lv_at hl 4 rfl) ?_
            refine lv_iload hx hb dX8_move_80 (lv_at hl 7 rfl) ?_
            refine zz_callVp (As := [.int ix, .int nn]) (rest := []) ⟨hx, hb, hml, hown, hts⟩ hK hP hS (c_X3_holds l E σ (h0 + 68 + 2 * j6) ix nn (g0.2.2.2.2.1 j6 r6) (by exact hs8)) (cwV 2 hts gX8_move_X3_holds rfl rfl rfl (by decide +kernel) ⟨Nat.le_of_ble_eq_true rfl, Nat.le_of_ble_eq_true rfl⟩) ((g0.2.2.2.2.1 j6 r6).1) rfl rfl hl.1 rfl (Nat.le_of_ble_eq_true rfl) dX8_move_82 ⟨Nat.zero_le _, Nat.zero_le _⟩ (fun r12 H locs f12 hP1 hS1 => ?_)
            replace hP := hP1
            replace hS := hS1
            clear hP1 hS1
            refine lv_if_eq (tgt := 100) hx hb dX8_move_85 (by decide) (fun c13 => ?_) (fun c13 => ?_)
            · have c13 := zz_eqT c13
              refine lv_aload_n hx hb dX8_move_100 rfl (lv_at hl 2 rfl) ?_
              refine lv_iconst (v := 1) hx hb dX8_move_101 (by decide) ?_
              refine zz_callVi (As := [.int 1]) (rest := []) ⟨hx, hb, hml, hown, hts⟩ hK hP hS (c_X8_refuse l E σ h0 1 g0 (by omega)) (cwV 1 hts gX8_move_X8_refuse rfl rfl rfl (by decide +kernel) ⟨Nat.le_of_ble_eq_true rfl, Nat.le_of_ble_eq_true rfl⟩) (g0.1) rfl rfl hl.1 rfl (Nat.le_of_ble_eq_true rfl) dX8_move_102 ⟨Nat.zero_le _, Nat.zero_le _⟩ (fun r14 σ14 H locs q14 hP1 hS1 => ?_)
              replace hP := hP1
              replace hS := hS1
              clear hP1 hS1
              try dsimp only at q14
              obtain ⟨w14, f14⟩ := q14
              replace hC := hC.tr (w14.mono (dS17_12 h0))
              replace t0 : σ14 (h0 + 1) 0 = σ (h0 + 1) 0 := (w14 (h0 + 1) 0 (dS17_5 h0)).trans t0
              replace t1 : σ14 (h0 + 1) 1 = σ (h0 + 1) 1 := (w14 (h0 + 1) 1 (dS17_5 h0)).trans t1
              replace t2 : σ14 (h0 + 1) 4 = σ (h0 + 1) 4 := (w14 (h0 + 1) 4 (dS17_5 h0)).trans t2
              replace t3 : σ14 (h0 + 1) 6 = σ (h0 + 1) 6 := (w14 (h0 + 1) 6 (dS17_5 h0)).trans t3
              exact zz_iret hx hb hr hlocks hK hP hS dX8_move_105 (by exact ⟨hC, (hI.soft (w14.mono (by intro a k h; omega))), Or.inr (Or.inr (Or.inr (Or.inl ⟨by omega, by omega, by omega, (zz_CX.eq (fun j hj k hk => w14 _ _ (by first | (dsimp only; omega) | omega)))⟩)))⟩)
            · have c13 := zz_neT c13
              refine lv_aload hx hb dX8_move_88 (lv_at hl 0 rfl) ?_
              refine lv_iload hx hb dX8_move_90 (lv_at hl 6 rfl) ?_
              refine lv_iload hx hb dX8_move_92 (lv_at hl 7 rfl) ?_
              refine zz_callVp (As := [.int jx, .int nn]) (rest := []) ⟨hx, hb, hml, hown, hts⟩ hK hP hS (c_X3_holds l E σ (h0 + 68 + 2 * j7) jx nn (g0.2.2.2.2.1 j7 r7) (by exact hs9)) (cwV 2 hts gX8_move_X3_holds rfl rfl rfl (by decide +kernel) ⟨Nat.le_of_ble_eq_true rfl, Nat.le_of_ble_eq_true rfl⟩) ((g0.2.2.2.2.1 j7 r7).1) rfl rfl hl.1 rfl (Nat.le_of_ble_eq_true rfl) dX8_move_94 ⟨Nat.zero_le _, Nat.zero_le _⟩ (fun r15 H locs f15 hP1 hS1 => ?_)
              replace hP := hP1
              replace hS := hS1
              clear hP1 hS1
              refine lv_if_ne (tgt := 106) hx hb dX8_move_97 (by decide) (fun c16 => ?_) (fun c16 => ?_)
              · have c16 := zz_neT c16
                refine lv_aload hx hb dX8_move_106 (lv_at hl 1 rfl) ?_
                refine zz_getr hx hb hts hi3 hown hK hP ((g0.2.2.2.2.1 j6 r6).1) rfl 2 (by decide) (hts (.fieldLink RX8 275 "NoonLaw$Sheet" "numbers" "[I") (List.mem_cons_of_mem _ bm_772)) rfl rfl dX8_move_108 ?_
                refine lv_iload_n hx hb dX8_move_111 rfl (lv_at hl 4 rfl) ?_
                refine lv_aload hx hb dX8_move_112 (lv_at hl 0 rfl) ?_
                refine zz_getr hx hb hts hi3 hown hK hP ((g0.2.2.2.2.1 j7 r7).1) rfl 2 (by decide) (hts (.fieldLink RX8 275 "NoonLaw$Sheet" "numbers" "[I") (List.mem_cons_of_mem _ bm_772)) rfl rfl dX8_move_114 ?_
                refine lv_iload hx hb dX8_move_117 (lv_at hl 6 rfl) ?_
                refine lv_iload hx hb dX8_move_119 (lv_at hl 7 rfl) ?_
                refine zz_copy hx hb (hml.trans hl.1.symm) hown (hts (.methodLink RX8 278 arraycopyName) (List.mem_cons_of_mem _ bm_914)) (hts (.native arraycopyName) (List.mem_cons_of_mem _ bm_454)) (hts (.static arraycopyName) (List.mem_cons_of_mem _ bm_455)) (hts (.initialized "java/lang/System") (List.mem_cons_of_mem _ bm_456)) hK hP hS 0 rfl rfl ((g0.2.2.2.2.1 j6 r6).2) ((g0.2.2.2.2.1 j7 r7).2) (by omega) (by omega) (by omega) (by omega) (by omega) (fun _ _ => rfl) (Nat.le_of_ble_eq_true rfl) (Nat.le_of_ble_eq_true rfl) dX8_move_121 (fun σ17 H locs w17 hP1 hS1 => ?_)
                replace hP := hP1
                replace hS := hS1
                clear hP1 hS1
                replace hC := hC.cp w17 (by intro k; first | (dsimp only; omega) | omega | (dsimp only; done))
                replace t0 : σ17 (h0 + 1) 0 = σ (h0 + 1) 0 := (by rw [w17, zz_cpb (by omega)] : σ17 (h0 + 1) 0 = σ (h0 + 1) 0).trans t0
                replace t1 : σ17 (h0 + 1) 1 = σ (h0 + 1) 1 := (by rw [w17, zz_cpb (by omega)] : σ17 (h0 + 1) 1 = σ (h0 + 1) 1).trans t1
                replace t2 : σ17 (h0 + 1) 4 = σ (h0 + 1) 4 := (by rw [w17, zz_cpb (by omega)] : σ17 (h0 + 1) 4 = σ (h0 + 1) 4).trans t2
                replace t3 : σ17 (h0 + 1) 6 = σ (h0 + 1) 6 := (by rw [w17, zz_cpb (by omega)] : σ17 (h0 + 1) 6 = σ (h0 + 1) 6).trans t3
                refine lv_iload hx hb dX8_move_124 (lv_at hl 7 rfl) ?_
                exact zz_iret hx hb hr hlocks hK hP hS dX8_move_126 (by exact ⟨hC, ⟨(hI.1.keep (fun k => hC _ _ (by first | (dsimp only; omega) | omega)) (fun k => hC _ _ (by first | (dsimp only; omega) | omega)) (fun j hj k => hC _ _ (by first | (dsimp only; omega) | omega)) (fun j hj f hf => hC _ _ (by first | (dsimp only; omega) | omega))), (hkI.keep (fun k => hC _ _ (by first | (dsimp only; omega) | omega)) (fun k => hC _ _ (by first | (dsimp only; omega) | omega)) (fun j hj k => hC _ _ (by first | (dsimp only; omega) | omega)) (fun j hj f hf => hC _ _ (by first | (dsimp only; omega) | omega))), (fun j hj => by rw [hC _ _ (by first | (dsimp only; omega) | omega)]; exact hsh j hj), (by rw [hC _ _ (by first | (dsimp only; omega) | omega)]; exact hspk)⟩, Or.inr (Or.inr (Or.inr (Or.inr (⟨by omega, by omega, rfl, zz_CX.mv w17 q6 q7 r6 r7 (by omega) (by omega) (by omega) (by omega) (by omega)⟩))))⟩)
              · have c16 := zz_eqT c16
                refine lv_aload_n hx hb dX8_move_100 rfl (lv_at hl 2 rfl) ?_
                refine lv_iconst (v := 1) hx hb dX8_move_101 (by decide) ?_
                refine zz_callVi (As := [.int 1]) (rest := []) ⟨hx, hb, hml, hown, hts⟩ hK hP hS (c_X8_refuse l E σ h0 1 g0 (by omega)) (cwV 1 hts gX8_move_X8_refuse rfl rfl rfl (by decide +kernel) ⟨Nat.le_of_ble_eq_true rfl, Nat.le_of_ble_eq_true rfl⟩) (g0.1) rfl rfl hl.1 rfl (Nat.le_of_ble_eq_true rfl) dX8_move_102 ⟨Nat.zero_le _, Nat.zero_le _⟩ (fun r18 σ18 H locs q18 hP1 hS1 => ?_)
                replace hP := hP1
                replace hS := hS1
                clear hP1 hS1
                try dsimp only at q18
                obtain ⟨w18, f18⟩ := q18
                replace hC := hC.tr (w18.mono (dS17_12 h0))
                replace t0 : σ18 (h0 + 1) 0 = σ (h0 + 1) 0 := (w18 (h0 + 1) 0 (dS17_5 h0)).trans t0
                replace t1 : σ18 (h0 + 1) 1 = σ (h0 + 1) 1 := (w18 (h0 + 1) 1 (dS17_5 h0)).trans t1
                replace t2 : σ18 (h0 + 1) 4 = σ (h0 + 1) 4 := (w18 (h0 + 1) 4 (dS17_5 h0)).trans t2
                replace t3 : σ18 (h0 + 1) 6 = σ (h0 + 1) 6 := (w18 (h0 + 1) 6 (dS17_5 h0)).trans t3
                exact zz_iret hx hb hr hlocks hK hP hS dX8_move_105 (by exact ⟨hC, (hI.soft (w18.mono (by intro a k h; omega))), Or.inr (Or.inr (Or.inr (Or.inl ⟨by omega, by omega, by omega, (zz_CX.eq (fun j hj k hk => w18 _ _ (by first | (dsimp only; omega) | omega)))⟩)))⟩)
          · have c11 := zz_neT c11
            refine lv_aload_n hx hb dX8_move_71 rfl (lv_at hl 2 rfl) ?_
            refine lv_iconst (v := 5) hx hb dX8_move_72 (by decide) ?_
            refine zz_callVi (As := [.int 5]) (rest := []) ⟨hx, hb, hml, hown, hts⟩ hK hP hS (c_X8_refuse l E σ h0 5 g0 (by omega)) (cwV 1 hts gX8_move_X8_refuse rfl rfl rfl (by decide +kernel) ⟨Nat.le_of_ble_eq_true rfl, Nat.le_of_ble_eq_true rfl⟩) (g0.1) rfl rfl hl.1 rfl (Nat.le_of_ble_eq_true rfl) dX8_move_73 ⟨Nat.zero_le _, Nat.zero_le _⟩ (fun r19 σ19 H locs q19 hP1 hS1 => ?_)
            replace hP := hP1
            replace hS := hS1
            clear hP1 hS1
            try dsimp only at q19
            obtain ⟨w19, f19⟩ := q19
            replace hC := hC.tr (w19.mono (dS17_12 h0))
            replace t0 : σ19 (h0 + 1) 0 = σ (h0 + 1) 0 := (w19 (h0 + 1) 0 (dS17_5 h0)).trans t0
            replace t1 : σ19 (h0 + 1) 1 = σ (h0 + 1) 1 := (w19 (h0 + 1) 1 (dS17_5 h0)).trans t1
            replace t2 : σ19 (h0 + 1) 4 = σ (h0 + 1) 4 := (w19 (h0 + 1) 4 (dS17_5 h0)).trans t2
            replace t3 : σ19 (h0 + 1) 6 = σ (h0 + 1) 6 := (w19 (h0 + 1) 6 (dS17_5 h0)).trans t3
            exact zz_iret hx hb hr hlocks hK hP hS dX8_move_76 (by exact ⟨hC, (hI.soft (w19.mono (by intro a k h; omega))), Or.inr (Or.inr (Or.inl ⟨by omega, by omega, by omega, (zz_CX.eq (fun j hj k hk => w19 _ _ (by first | (dsimp only; omega) | omega)))⟩))⟩)
        · have c10 := zz_eqT c10
          refine lv_aload_n hx hb dX8_move_52 rfl (lv_at hl 2 rfl) ?_
          refine lv_iconst (v := 2) hx hb dX8_move_53 (by decide) ?_
          refine zz_callVi (As := [.int 2]) (rest := []) ⟨hx, hb, hml, hown, hts⟩ hK hP hS (c_X8_refuse l E σ h0 2 g0 (by omega)) (cwV 1 hts gX8_move_X8_refuse rfl rfl rfl (by decide +kernel) ⟨Nat.le_of_ble_eq_true rfl, Nat.le_of_ble_eq_true rfl⟩) (g0.1) rfl rfl hl.1 rfl (Nat.le_of_ble_eq_true rfl) dX8_move_54 ⟨Nat.zero_le _, Nat.zero_le _⟩ (fun r20 σ20 H locs q20 hP1 hS1 => ?_)
          replace hP := hP1
          replace hS := hS1
          clear hP1 hS1
          try dsimp only at q20
          obtain ⟨w20, f20⟩ := q20
          replace hC := hC.tr (w20.mono (dS17_12 h0))
          replace t0 : σ20 (h0 + 1) 0 = σ (h0 + 1) 0 := (w20 (h0 + 1) 0 (dS17_5 h0)).trans t0
          replace t1 : σ20 (h0 + 1) 1 = σ (h0 + 1) 1 := (w20 (h0 + 1) 1 (dS17_5 h0)).trans t1
          replace t2 : σ20 (h0 + 1) 4 = σ (h0 + 1) 4 := (w20 (h0 + 1) 4 (dS17_5 h0)).trans t2
          replace t3 : σ20 (h0 + 1) 6 = σ (h0 + 1) 6 := (w20 (h0 + 1) 6 (dS17_5 h0)).trans t3
          exact zz_iret hx hb hr hlocks hK hP hS dX8_move_57 (by exact ⟨hC, (hI.soft (w20.mono (by intro a k h; omega))), Or.inr (Or.inl ⟨by omega, by omega, by omega, (zz_CX.eq (fun j hj k hk => w20 _ _ (by first | (dsimp only; omega) | omega)))⟩)⟩)
    · have c5 := zz_eqT c5
      refine lv_aload_n hx hb dX8_move_14 rfl (lv_at hl 0 rfl) ?_
      refine lv_iconst (v := 1) hx hb dX8_move_15 (by decide) ?_
      refine zz_callVi (As := [.int 1]) (rest := []) ⟨hx, hb, hml, hown, hts⟩ hK hP hS (c_X8_refuse l E σ h0 1 g0 (by omega)) (cwV 1 hts gX8_move_X8_refuse rfl rfl rfl (by decide +kernel) ⟨Nat.le_of_ble_eq_true rfl, Nat.le_of_ble_eq_true rfl⟩) (g0.1) rfl rfl hl.1 rfl (Nat.le_of_ble_eq_true rfl) dX8_move_16 ⟨Nat.zero_le _, Nat.zero_le _⟩ (fun r21 σ21 H locs q21 hP1 hS1 => ?_)
      replace hP := hP1
      replace hS := hS1
      clear hP1 hS1
      try dsimp only at q21
      obtain ⟨w21, f21⟩ := q21
      replace hC := hC.tr (w21.mono (dS17_12 h0))
      replace t0 : σ21 (h0 + 1) 0 = σ (h0 + 1) 0 := (w21 (h0 + 1) 0 (dS17_5 h0)).trans t0
      replace t1 : σ21 (h0 + 1) 1 = σ (h0 + 1) 1 := (w21 (h0 + 1) 1 (dS17_5 h0)).trans t1
      replace t2 : σ21 (h0 + 1) 4 = σ (h0 + 1) 4 := (w21 (h0 + 1) 4 (dS17_5 h0)).trans t2
      replace t3 : σ21 (h0 + 1) 6 = σ (h0 + 1) 6 := (w21 (h0 + 1) 6 (dS17_5 h0)).trans t3
      exact zz_iret hx hb hr hlocks hK hP hS dX8_move_19 (by exact ⟨hC, (hI.soft (w21.mono (by intro a k h; omega))), Or.inl ⟨by omega, by omega, (zz_CX.eq (fun j hj k hk => w21 _ _ (by first | (dsimp only; omega) | omega)))⟩⟩)
theorem gX8_wonts_X8_isSheet : GoodIn wzX8_wonts (va_wsS RX8 243 yX8_isSheet wzX8_isSheet) := wz_co bm_765 (wz_co bm_766 (wz_co bm_2 (wz_in bm_767)))
theorem gX8_wonts_X8_refuse : GoodIn wzX8_wonts (wsV RX8 68 RX8 yX8_refuse wzX8_refuse) := wz_co bm_118 (wz_co bm_119 (wz_co bm_120 (wz_co bm_2 (wz_in bm_121))))
theorem gX8_wonts_X8_within : GoodIn wzX8_wonts (va_wsS RX8 64 yX8_within wzX8_within) := wz_co bm_112 (wz_co bm_113 (wz_co bm_2 (wz_in bm_114)))
theorem dS17_13 (x0 : Nat) : ∀ a k : Nat, (a = (x0) + 65) → (a = x0 + 24 ∨ a = x0 + 27 ∨ (x0 + 58 ≤ a ∧ a ≤ x0 + 67) ∨ (x0 + 16 ≤ a ∧ a < x0 + 22 ∧ k = 0)) := by intro a k h; omega
set_option maxHeartbeats 4000000 in
set_option maxRecDepth 100000 in
theorem c_X8_wonts (l : Launch) (E : zz_E) (σ : zz_S) (h0 : Nat) (sh : Int32) (g0 : zz_L E h0) (hI : zz_IX σ h0) : Met l yX8_wonts wzX8_wonts ({ frames := 2, cells := 0, slots := 0, locals := 42 }) (va_Pc [.ref h0, .int sh] (zz_B E σ)) (va_Qi (fun r σ1 => zz_ch (fun a k => a = h0 + 24 ∨ a = h0 + 27 ∨ (h0 + 58 ≤ a ∧ a ≤ h0 + 67) ∨ (h0 + 16 ≤ a ∧ a < h0 + 22 ∧ k = 0)) σ σ1 ∧ (zz_IX σ1 h0 ∧ (((sh.toInt < 0 ∨ 3 < sh.toInt) ∧ r.toInt = -1000000001 ∧ zz_PX 0 σ1 (h0 + 1) = zz_PX 0 σ (h0 + 1)) ∨ ((0 ≤ sh.toInt ∧ sh.toInt ≤ 3) ∧ zz_HX 0 σ h0 sh.toInt.toNat = 0 ∧ r.toInt = -1000000002 ∧ zz_PX 0 σ1 (h0 + 1) = zz_PX 0 σ (h0 + 1)) ∨ ((0 ≤ sh.toInt ∧ sh.toInt ≤ 3) ∧ zz_HX 0 σ h0 sh.toInt.toNat ≠ 0 ∧ r.toInt = (zz_wr (zz_CX σ h0 sh.toInt.toNat) (min (zz_HX 1 σ h0 sh.toInt.toNat) (σ (h0 + 1) 6).toInt).toNat 0 : Nat) ∧ zz_PX 0 σ1 (h0 + 1) = zz_wp (zz_CX σ h0 sh.toInt.toNat) (zz_PX 0 σ (h0 + 1)) r.toInt)))) (zz_B E) (zz_A E)) 0 0 (zz_A E) := by
  refine zz_met (cc := cX8_wonts) (maxL := 5) (ret := (some .int)) (by decide) rfl (Nat.le_of_ble_eq_true rfl) ?_
  intro p e s m args below meth c ls hx hb hr hts hown hlocks hml hK hP hS hl
  have hl : lv_has ls 5 [(0, .ref h0), (1, .int sh)] := hl
  have hown : s.vm.findClass RX8 = some m.cls := hown
  have hi1 : ∀ w ∈ wsX10, w ∈ wzX8_wonts := fun w h => List.mem_cons_of_mem _ (hbw1 w h)
  have hi2 : ∀ w ∈ wsX20, w ∈ wzX8_wonts := fun w h => List.mem_cons_of_mem _ (hbw2 w h)
  have hi3 : ∀ w ∈ wsX30, w ∈ wzX8_wonts := fun w h => List.mem_cons_of_mem _ (hbw3 w h)
  have hi8 : ∀ w ∈ wsX80, w ∈ wzX8_wonts := fun w h => List.mem_cons_of_mem _ (hbw8 w h)
  have k_0 : (0 : Int32).toInt = 0 := by decide +kernel
  have k_1 : (1 : Int32).toInt = 1 := by decide +kernel
  have k_2 : (2 : Int32).toInt = 2 := by decide +kernel
  have k_1023 : (1023 : Int32).toInt = 1023 := by decide +kernel
  replace t0 : σ (h0 + 1) 0 = σ (h0 + 1) 0 := rfl
  replace t1 : σ (h0 + 1) 1 = σ (h0 + 1) 1 := rfl
  replace t2 : σ (h0 + 1) 4 = σ (h0 + 1) 4 := rfl
  replace t3 : σ (h0 + 1) 6 = σ (h0 + 1) 6 := rfl
  have hC : zz_ch (fun a k => a = h0 + 24 ∨ a = h0 + 27 ∨ (h0 + 58 ≤ a ∧ a ≤ h0 + 67) ∨ (h0 + 16 ≤ a ∧ a < h0 + 22 ∧ k = 0)) σ σ := zz_ch.rf σ
  obtain ⟨⟨hh, hsl, hd, hp, htc, hwc, ht, hft, hst, hid⟩, hkI, hsh, hspk⟩ := id hI
  refine lv_iload_n hx hb dX8_wonts_0 rfl (lv_at hl 1 rfl) ?_
  refine zz_callSp (As := [.int sh]) (rest := []) ⟨hx, hb, hml, hown, hts⟩ hK hP hS (c_X8_isSheet l E σ sh) (va_cwS 1 hts gX8_wonts_X8_isSheet rfl rfl rfl (by decide +kernel) ⟨Nat.le_of_ble_eq_true rfl, Nat.le_of_ble_eq_true rfl⟩) rfl hl.1 rfl (Nat.le_of_ble_eq_true rfl) dX8_wonts_1 ⟨Nat.zero_le _, Nat.zero_le _⟩ (fun r1 H locs f1 hP1 hS1 => ?_)
  replace hP := hP1
  replace hS := hS1
  clear hP1 hS1
  refine lv_if_ne (tgt := 13) hx hb dX8_wonts_4 (by decide) (fun c2 => ?_) (fun c2 => ?_)
  · have c2 := zz_neT c2
    refine lv_aload_n hx hb dX8_wonts_13 rfl (lv_at hl 0 rfl) ?_
    refine zz_getr hx hb hts hi8 hown hK hP (g0.1) rfl 3 (by decide) (hts (.fieldLink RX8 21 "NoonLaw" "sheets" "[LNoonLaw$Sheet;") (List.mem_cons_of_mem _ bm_19)) rfl rfl dX8_wonts_14 ?_
    refine lv_iload_n hx hb dX8_wonts_17 rfl (lv_at hl 1 rfl) ?_
    refine zz_aald hx hb hK hP (g0.2.2.2.1) rfl (by omega) (by omega) dX8_wonts_18 (fun j3 q3 r3 => ?_)
    refine lv_astore_n (lv' := [(2, .ref (h0 + 68 + 2 * j3)), (0, .ref h0), (1, .int sh)]) hx hb dX8_wonts_19 rfl hl (by decide) rfl (fun ls hl => ?_)
    have hs9 := hsh j3 r3
    have hxsh0 : zz_HX 0 σ h0 sh.toInt.toNat = (σ (h0 + 68 + 2 * j3) 0).toInt := by rw [show sh.toInt.toNat = j3 from by omega]; exact zz_HX.at r3
    have hxsh1 : zz_HX 1 σ h0 sh.toInt.toNat = (σ (h0 + 68 + 2 * j3) 1).toInt := by rw [show sh.toInt.toNat = j3 from by omega]; exact zz_HX.at r3
    refine lv_aload_n hx hb dX8_wonts_20 rfl (lv_at hl 0 rfl) ?_
    refine zz_geti hx hb hts hi3 hown hK hP ((g0.2.2.2.2.1 j3 r3).1) rfl 0 (by decide) (hts (.fieldLink RX8 246 "NoonLaw$Sheet" "bits" "I") (List.mem_cons_of_mem _ bm_763)) rfl rfl rfl dX8_wonts_21 ?_
    refine lv_if_ne (tgt := 33) hx hb dX8_wonts_24 (by decide) (fun c4 => ?_) (fun c4 => ?_)
    · have c4 := zz_neT c4
      refine lv_aload_n hx hb dX8_wonts_33 rfl (lv_at hl 0 rfl) ?_
      refine zz_geti hx hb hts hi3 hown hK hP ((g0.2.2.2.2.1 j3 r3).1) rfl 1 (by decide) (hts (.fieldLink RX8 249 "NoonLaw$Sheet" "length" "I") (List.mem_cons_of_mem _ bm_764)) rfl rfl rfl dX8_wonts_34 ?_
      refine lv_aload_n hx hb dX8_wonts_37 rfl (lv_at hl 1 rfl) ?_
      refine zz_getr hx hb hts hi8 hown hK hP (g0.1) rfl 0 (by decide) (hts (.fieldLink RX8 10 "NoonLaw" "realm" "LNoonLaw$Realm;") (List.mem_cons_of_mem _ bm_16)) rfl rfl dX8_wonts_38 ?_
      refine zz_geti hx hb hts hi2 hown hK hP (g0.2.1.1) rfl 6 (by decide) (hts (.fieldLink RX8 284 "NoonLaw$Realm" "peopleCount" "I") (List.mem_cons_of_mem _ bm_332)) rfl rfl t3 dX8_wonts_41 ?_
      refine va_mmin hx hb (hml.trans hl.1.symm) hown (hts (.methodLink RX8 227 Lib.Math.min.name) (List.mem_cons_of_mem _ bm_674)) (hts (.static Lib.Math.min.name) (List.mem_cons_of_mem _ bm_226)) (hts (.initialized "java/lang/Math") (List.mem_cons_of_mem _ bm_227)) (hts (.code Lib.Math.min.name Lib.Math.min.code 2 (some .int)) (List.mem_cons_of_mem _ bm_228)) (Nat.le_of_ble_eq_true rfl) (Nat.le_of_ble_eq_true rfl) (Nat.zero_le _) (Nat.zero_le _) dX8_wonts_44 ?_
      refine lv_topi (fun n5 e5 => ?_)
      have f5 := zz_minT e5
      refine lv_istore_n (lv' := [(3, .int n5), (2, .ref (h0 + 68 + 2 * j3)), (0, .ref h0), (1, .int sh)]) hx hb dX8_wonts_47 rfl hl (by decide) rfl (fun ls hl => ?_)
      refine lv_iconst (v := 0) hx hb dX8_wonts_48 (by decide) ?_
      refine lv_istore (lv' := [(4, .int 0), (3, .int n5), (2, .ref (h0 + 68 + 2 * j3)), (0, .ref h0), (1, .int sh)]) hx hb dX8_wonts_49 hl (by decide) rfl (fun ls hl => ?_)
      have J51 : ∀ (n : Nat) (ii : Int32) (σa : zz_S) (H : Heap) (locs : List Loc) (ls : Array Slot), ((24 - ii.toInt).toNat) < n → (zz_ch (fun a k => a = h0 + 24 ∨ a = h0 + 27 ∨ (h0 + 58 ≤ a ∧ a ≤ h0 + 67) ∨ (h0 + 16 ≤ a ∧ a < h0 + 22 ∧ k = 0)) σ σa) → (0 ≤ ii.toInt) → (zz_wr (zz_CX σ h0 sh.toInt.toNat) ((min (zz_HX 1 σ h0 sh.toInt.toNat) (σ (h0 + 1) 6).toInt).toNat - ii.toInt.toNat) ii.toInt.toNat = zz_wr (zz_CX σ h0 sh.toInt.toNat) (min (zz_HX 1 σ h0 sh.toInt.toNat) (σ (h0 + 1) 6).toInt).toNat 0) → (zz_PX 0 σa (h0 + 1) = zz_wp (zz_CX σ h0 sh.toInt.toNat) (zz_PX 0 σ (h0 + 1)) ii.toInt) → (σa (h0 + 1) 0 = σ (h0 + 1) 0) → (σa (h0 + 1) 1 = σ (h0 + 1) 1) → (σa (h0 + 1) 4 = σ (h0 + 1) 4) → (σa (h0 + 1) 6 = σ (h0 + 1) 6) → zz_P E σa H → va_S (zz_A E) s.heap H locs → lv_has ls 5 [(4, .int ii), (3, .int n5), (2, .ref (h0 + 68 + 2 * j3)), (0, .ref h0), (1, .int sh)] → W p l e (headSpec wzX8_wonts ({ frames := 2, cells := 0, slots := 0, locals := 42 })).room s m args below meth c H locs 0 0 (MQ below (va_Qi (fun r σ1 => zz_ch (fun a k => a = h0 + 24 ∨ a = h0 + 27 ∨ (h0 + 58 ≤ a ∧ a ≤ h0 + 67) ∨ (h0 + 16 ≤ a ∧ a < h0 + 22 ∧ k = 0)) σ σ1 ∧ (zz_IX σ1 h0 ∧ (((sh.toInt < 0 ∨ 3 < sh.toInt) ∧ r.toInt = -1000000001 ∧ zz_PX 0 σ1 (h0 + 1) = zz_PX 0 σ (h0 + 1)) ∨ ((0 ≤ sh.toInt ∧ sh.toInt ≤ 3) ∧ zz_HX 0 σ h0 sh.toInt.toNat = 0 ∧ r.toInt = -1000000002 ∧ zz_PX 0 σ1 (h0 + 1) = zz_PX 0 σ (h0 + 1)) ∨ ((0 ≤ sh.toInt ∧ sh.toInt ≤ 3) ∧ zz_HX 0 σ h0 sh.toInt.toNat ≠ 0 ∧ r.toInt = (zz_wr (zz_CX σ h0 sh.toInt.toNat) (min (zz_HX 1 σ h0 sh.toInt.toNat) (σ (h0 + 1) 6).toInt).toNat 0 : Nat) ∧ zz_PX 0 σ1 (h0 + 1) = zz_wp (zz_CX σ h0 sh.toInt.toNat) (zz_PX 0 σ (h0 + 1)) r.toInt)))) (zz_B E) (zz_A E)) args s 0 0 (zz_A E)) (F0 m 51 ls []) := by
        intro n
        induction n with
        | zero => intro ii σa H locs ls hm; exact absurd hm (Nat.not_lt_zero _)
        | succ n ih51 =>
          intro ii σa H locs ls hm hC f51_0 f51_1 f51_2 t0 t1 t2 t3 hP hS hl
          refine lv_iload hx hb dX8_wonts_51 (lv_at hl 0 rfl) ?_
          refine lv_iload_n hx hb dX8_wonts_53 rfl (lv_at hl 1 rfl) ?_
          refine lv_icmp_ge (tgt := 100) hx hb dX8_wonts_54 (by decide) (fun c6 => ?_) (fun c6 => ?_)
          · have c6 := zz_leT c6
            refine lv_iload hx hb dX8_wonts_100 (lv_at hl 0 rfl) ?_
            have hw9 := (zz_wr_0 (by omega) : zz_wr (zz_CX σ h0 sh.toInt.toNat) ((min (zz_HX 1 σ h0 sh.toInt.toNat) (σ (h0 + 1) 6).toInt).toNat - ii.toInt.toNat) ii.toInt.toNat = ii.toInt.toNat)
            exact zz_iret hx hb hr hlocks hK hP hS dX8_wonts_102 (by exact ⟨hC, ⟨(hI.1.keep (fun k => hC _ _ (by first | (dsimp only; omega) | omega)) (fun k => hC _ _ (by first | (dsimp only; omega) | omega)) (fun j hj k => hC _ _ (by first | (dsimp only; omega) | omega)) (fun j hj f hf => hC _ _ (by first | (dsimp only; omega) | omega))), (hkI.keep (fun k => hC _ _ (by first | (dsimp only; omega) | omega)) (fun k => hC _ _ (by first | (dsimp only; omega) | omega)) (fun j hj k => hC _ _ (by first | (dsimp only; omega) | omega)) (fun j hj f hf => hC _ _ (by first | (dsimp only; omega) | omega))), (fun j hj => by rw [hC _ _ (by first | (dsimp only; omega) | omega)]; exact hsh j hj), (by rw [hC _ _ (by first | (dsimp only; omega) | omega)]; exact hspk)⟩, Or.inr (Or.inr (⟨by omega, by omega, by rw [← f51_1, hw9]; omega, f51_2⟩))⟩)
          · have c6 := zz_nleT c6
            refine lv_aload_n hx hb dX8_wonts_57 rfl (lv_at hl 2 rfl) ?_
            refine zz_getr hx hb hts hi3 hown hK hP ((g0.2.2.2.2.1 j3 r3).1) rfl 2 (by decide) (hts (.fieldLink RX8 275 "NoonLaw$Sheet" "numbers" "[I") (List.mem_cons_of_mem _ bm_772)) rfl rfl dX8_wonts_58 ?_
            refine lv_iload hx hb dX8_wonts_61 (lv_at hl 0 rfl) ?_
            refine zz_iald hx hb hK hP ((g0.2.2.2.2.1 j3 r3).2) (by omega) (by omega) dX8_wonts_63 (fun j7 q7 r7 => ?_)
            have hcx : zz_CX σ h0 sh.toInt.toNat ii.toInt.toNat = (σa ((h0 + 68 + 2 * j3) + 1) j7).toInt := by rw [show sh.toInt.toNat = j3 from by omega, show ii.toInt.toNat = j7 from by omega, zz_CX.at r3 (by omega)]; exact (congrArg Int32.toInt (hC _ _ (by first | (dsimp only; omega) | omega))).symm
            refine lv_iconst (v := 0) hx hb dX8_wonts_64 (by decide) ?_
            refine lv_sipush (v := 1023) hx hb dX8_wonts_65 (by decide) ?_
            refine zz_callSp (As := [.int (σa ((h0 + 68 + 2 * j3) + 1) j7), .int 0, .int 1023]) (rest := []) ⟨hx, hb, hml, hown, hts⟩ hK hP hS (c_X8_within l E σa (σa ((h0 + 68 + 2 * j3) + 1) j7) 0 1023) (va_cwS 3 hts gX8_wonts_X8_within rfl rfl rfl (by decide +kernel) ⟨Nat.le_of_ble_eq_true rfl, Nat.le_of_ble_eq_true rfl⟩) rfl hl.1 rfl (Nat.le_of_ble_eq_true rfl) dX8_wonts_68 ⟨Nat.zero_le _, Nat.zero_le _⟩ (fun r8 H locs f8 hP1 hS1 => ?_)
            replace hP := hP1
            replace hS := hS1
            clear hP1 hS1
            refine lv_if_eq (tgt := 100) hx hb dX8_wonts_71 (by decide) (fun c9 => ?_) (fun c9 => ?_)
            · have c9 := zz_eqT c9
              refine lv_iload hx hb dX8_wonts_100 (lv_at hl 0 rfl) ?_
              have hw9 := (zz_wr_stop (by rw [hcx]; omega) : zz_wr (zz_CX σ h0 sh.toInt.toNat) ((min (zz_HX 1 σ h0 sh.toInt.toNat) (σ (h0 + 1) 6).toInt).toNat - ii.toInt.toNat) ii.toInt.toNat = ii.toInt.toNat)
              exact zz_iret hx hb hr hlocks hK hP hS dX8_wonts_102 (by exact ⟨hC, ⟨(hI.1.keep (fun k => hC _ _ (by first | (dsimp only; omega) | omega)) (fun k => hC _ _ (by first | (dsimp only; omega) | omega)) (fun j hj k => hC _ _ (by first | (dsimp only; omega) | omega)) (fun j hj f hf => hC _ _ (by first | (dsimp only; omega) | omega))), (hkI.keep (fun k => hC _ _ (by first | (dsimp only; omega) | omega)) (fun k => hC _ _ (by first | (dsimp only; omega) | omega)) (fun j hj k => hC _ _ (by first | (dsimp only; omega) | omega)) (fun j hj f hf => hC _ _ (by first | (dsimp only; omega) | omega))), (fun j hj => by rw [hC _ _ (by first | (dsimp only; omega) | omega)]; exact hsh j hj), (by rw [hC _ _ (by first | (dsimp only; omega) | omega)]; exact hspk)⟩, Or.inr (Or.inr (⟨by omega, by omega, by rw [← f51_1, hw9]; omega, f51_2⟩))⟩)
            · have c9 := zz_neT c9
              refine lv_aload_n hx hb dX8_wonts_74 rfl (lv_at hl 3 rfl) ?_
              refine zz_getr hx hb hts hi8 hown hK hP (g0.1) rfl 0 (by decide) (hts (.fieldLink RX8 10 "NoonLaw" "realm" "LNoonLaw$Realm;") (List.mem_cons_of_mem _ bm_16)) rfl rfl dX8_wonts_75 ?_
              refine zz_getr hx hb hts hi2 hown hK hP (g0.2.1.1) rfl 5 (by decide) (hts (.fieldLink RX8 127 "NoonLaw$Realm" "people" "[LNoonLaw$Person;") (List.mem_cons_of_mem _ bm_325)) rfl rfl dX8_wonts_78 ?_
              refine lv_iload hx hb dX8_wonts_81 (lv_at hl 0 rfl) ?_
              refine zz_aald hx hb hK hP (g0.2.1.2.2.1) rfl (by omega) (by omega) dX8_wonts_83 (fun j10 q10 r10 => ?_)
              refine lv_aload_n hx hb dX8_wonts_84 rfl (lv_at hl 2 rfl) ?_
              refine zz_getr hx hb hts hi3 hown hK hP ((g0.2.2.2.2.1 j3 r3).1) rfl 2 (by decide) (hts (.fieldLink RX8 275 "NoonLaw$Sheet" "numbers" "[I") (List.mem_cons_of_mem _ bm_772)) rfl rfl dX8_wonts_85 ?_
              refine lv_iload hx hb dX8_wonts_88 (lv_at hl 0 rfl) ?_
              refine zz_iald hx hb hK hP ((g0.2.2.2.2.1 j3 r3).2) (by omega) (by omega) dX8_wonts_90 (fun j11 q11 r11 => ?_)
              have hcv : (σa ((h0 + 68 + 2 * j3) + 1) j11).toInt = zz_CX σ h0 sh.toInt.toNat ii.toInt.toNat := by rw [hcx, show j11 = j7 from by omega]
              refine zz_puti (v := σa ((h0 + 68 + 2 * j3) + 1) j11) (ty := .int) hx hb hts hi1 tyX1 tyX1_ok nmX1 hown hK hP hS ((g0.2.1.2.2.2.2.2.2.2.1 j10 r10)) rfl 0 (by decide) (hts (.fieldLink RX8 131 "NoonLaw$Person" "wont" "I") (List.mem_cons_of_mem _ bm_326)) rfl rfl (by decide +kernel) rfl rfl rfl dX8_wonts_91 (fun σ12 H locs w12 hP1 hS1 => ?_)
              replace hP := hP1
              replace hS := hS1
              clear hP1 hS1
              replace hC := hC.u w12 (by first | (dsimp only; omega) | omega | (dsimp only; done))
              replace t0 : σ12 (h0 + 1) 0 = σ (h0 + 1) 0 := (zz_w (b := (h0 + 1)) (j := 0) w12 (by omega)).trans t0
              replace t1 : σ12 (h0 + 1) 1 = σ (h0 + 1) 1 := (zz_w (b := (h0 + 1)) (j := 1) w12 (by omega)).trans t1
              replace t2 : σ12 (h0 + 1) 4 = σ (h0 + 1) 4 := (zz_w (b := (h0 + 1)) (j := 4) w12 (by omega)).trans t2
              replace t3 : σ12 (h0 + 1) 6 = σ (h0 + 1) 6 := (zz_w (b := (h0 + 1)) (j := 6) w12 (by omega)).trans t3
              obtain ⟨n13, e13⟩ : ∃ y : Int32, y = ii + 1 := ⟨_, rfl⟩
              have f13 : n13.toInt = (ii).toInt + (1) := by have h9 := zz_addT e13 (by omega) (by omega); omega
              refine lv_iinc (v := n13) (lv' := [(4, .int n13), (3, .int n5), (2, .ref (h0 + 68 + 2 * j3)), (0, .ref h0), (1, .int sh)]) hx hb dX8_wonts_94 hl (k := 0) rfl (by rw [e13]; rfl) (by decide) rfl (fun ls hl => ?_)
              refine lv_goto (tgt := 51) hx hb dX8_wonts_97 (by decide) ?_
              exact ih51 n13 σ12 _ _ _ (by omega) hC (by first | omega | exact ht | (rw [t0]; omega) | (rw [t1]; omega) | (rw [t2]; omega) | (rw [t3]; omega) | (intro j hj; rw [(hC _ _ (by first | (dsimp only; omega) | omega))]; exact ht j hj)) (by rw [← f51_1, show n13.toInt.toNat = ii.toInt.toNat + 1 from by omega, zz_wr_go (by rw [hcx]; omega) (by omega : 0 < (min (zz_HX 1 σ h0 sh.toInt.toNat) (σ (h0 + 1) 6).toInt).toNat - ii.toInt.toNat)]; exact congrArg (fun q => zz_wr (zz_CX σ h0 sh.toInt.toNat) q (ii.toInt.toNat + 1)) (by omega)) (by rw [zz_PXw w12 q10 r10, f51_2, hcv, show n13.toInt = ii.toInt + 1 from by omega]; exact zz_wp_s _ _ (by omega)) t0 t1 t2 t3 hP hS (lv_sub hl [0, 1, 2, 3, 4] rfl)
      exact J51 _ 0 σ _ _ _ (Nat.lt_succ_self _) hC (by first | omega | exact ht | (rw [t0]; omega) | (rw [t1]; omega) | (rw [t2]; omega) | (rw [t3]; omega) | (intro j hj; rw [(hC _ _ (by first | (dsimp only; omega) | omega))]; exact ht j hj)) (by rw [show ((0 : Int32).toInt.toNat) = 0 from by decide, Nat.sub_zero]) (by funext j; unfold zz_wp; rw [if_neg (by omega)]) t0 t1 t2 t3 hP hS (lv_sub hl [0, 1, 2, 3, 4] rfl)
    · have c4 := zz_eqT c4
      refine lv_aload_n hx hb dX8_wonts_27 rfl (lv_at hl 1 rfl) ?_
      refine lv_iconst (v := 2) hx hb dX8_wonts_28 (by decide) ?_
      refine zz_callVi (As := [.int 2]) (rest := []) ⟨hx, hb, hml, hown, hts⟩ hK hP hS (c_X8_refuse l E σ h0 2 g0 (by omega)) (cwV 1 hts gX8_wonts_X8_refuse rfl rfl rfl (by decide +kernel) ⟨Nat.le_of_ble_eq_true rfl, Nat.le_of_ble_eq_true rfl⟩) (g0.1) rfl rfl hl.1 rfl (Nat.le_of_ble_eq_true rfl) dX8_wonts_29 ⟨Nat.zero_le _, Nat.zero_le _⟩ (fun r14 σ14 H locs q14 hP1 hS1 => ?_)
      replace hP := hP1
      replace hS := hS1
      clear hP1 hS1
      try dsimp only at q14
      obtain ⟨w14, f14⟩ := q14
      replace hC := hC.tr (w14.mono (dS17_13 h0))
      replace t0 : σ14 (h0 + 1) 0 = σ (h0 + 1) 0 := (w14 (h0 + 1) 0 (dS17_5 h0)).trans t0
      replace t1 : σ14 (h0 + 1) 1 = σ (h0 + 1) 1 := (w14 (h0 + 1) 1 (dS17_5 h0)).trans t1
      replace t2 : σ14 (h0 + 1) 4 = σ (h0 + 1) 4 := (w14 (h0 + 1) 4 (dS17_5 h0)).trans t2
      replace t3 : σ14 (h0 + 1) 6 = σ (h0 + 1) 6 := (w14 (h0 + 1) 6 (dS17_5 h0)).trans t3
      exact zz_iret hx hb hr hlocks hK hP hS dX8_wonts_32 (by exact ⟨hC, (hI.soft (w14.mono (by intro a k h; omega))), Or.inr (Or.inl ⟨by omega, by omega, by omega, by rw [zz_PXk (f := 0) (r := h0 + 1) w14 (by intro j hj; first | (dsimp only; omega) | omega)]⟩)⟩)
  · have c2 := zz_eqT c2
    refine lv_aload_n hx hb dX8_wonts_7 rfl (lv_at hl 0 rfl) ?_
    refine lv_iconst (v := 1) hx hb dX8_wonts_8 (by decide) ?_
    refine zz_callVi (As := [.int 1]) (rest := []) ⟨hx, hb, hml, hown, hts⟩ hK hP hS (c_X8_refuse l E σ h0 1 g0 (by omega)) (cwV 1 hts gX8_wonts_X8_refuse rfl rfl rfl (by decide +kernel) ⟨Nat.le_of_ble_eq_true rfl, Nat.le_of_ble_eq_true rfl⟩) (g0.1) rfl rfl hl.1 rfl (Nat.le_of_ble_eq_true rfl) dX8_wonts_9 ⟨Nat.zero_le _, Nat.zero_le _⟩ (fun r15 σ15 H locs q15 hP1 hS1 => ?_)
    replace hP := hP1
    replace hS := hS1
    clear hP1 hS1
    try dsimp only at q15
    obtain ⟨w15, f15⟩ := q15
    replace hC := hC.tr (w15.mono (dS17_13 h0))
    replace t0 : σ15 (h0 + 1) 0 = σ (h0 + 1) 0 := (w15 (h0 + 1) 0 (dS17_5 h0)).trans t0
    replace t1 : σ15 (h0 + 1) 1 = σ (h0 + 1) 1 := (w15 (h0 + 1) 1 (dS17_5 h0)).trans t1
    replace t2 : σ15 (h0 + 1) 4 = σ (h0 + 1) 4 := (w15 (h0 + 1) 4 (dS17_5 h0)).trans t2
    replace t3 : σ15 (h0 + 1) 6 = σ (h0 + 1) 6 := (w15 (h0 + 1) 6 (dS17_5 h0)).trans t3
    exact zz_iret hx hb hr hlocks hK hP hS dX8_wonts_12 (by exact ⟨hC, (hI.soft (w15.mono (by intro a k h; omega))), Or.inl ⟨by omega, by omega, by rw [zz_PXk (f := 0) (r := h0 + 1) w15 (by intro j hj; first | (dsimp only; omega) | omega)]⟩⟩)
theorem gX8_count_X8_refuse : GoodIn wzX8_count (wsV RX8 68 RX8 yX8_refuse wzX8_refuse) := wz_co bm_118 (wz_co bm_119 (wz_co bm_120 (wz_co bm_2 (wz_in bm_121))))
theorem dS17_14 (x0 : Nat) : ∀ a k : Nat, (a = (x0) + 65) → (a = x0 + 24 ∨ a = x0 + 27 ∨ (x0 + 58 ≤ a ∧ a ≤ x0 + 67)) := by intro a k h; omega
set_option maxHeartbeats 4000000 in
set_option maxRecDepth 100000 in
theorem c_X8_count (l : Launch) (E : zz_E) (σ : zz_S) (h0 : Nat) (what : Int32) (g0 : zz_L E h0) (hI : zz_IX σ h0) : Met l yX8_count wzX8_count ({ frames := 1, cells := 0, slots := 0, locals := 21 }) (va_Pc [.ref h0, .int what] (zz_B E σ)) (va_Qi (fun r σ1 => zz_ch (fun a k => a = h0 + 24 ∨ a = h0 + 27 ∨ (h0 + 58 ≤ a ∧ a ≤ h0 + 67)) σ σ1 ∧ ((what.toInt = 0 ∧ r.toInt = (σ (h0 + 1) 4).toInt) ∨ (what.toInt = 1 ∧ r.toInt = (σ (h0 + 1) 6).toInt) ∨ (what.toInt = 2 ∧ r.toInt = (σ (h0 + 1) 0).toInt) ∨ (what.toInt = 3 ∧ r.toInt = (σ (h0 + 1) 1).toInt) ∨ (what.toInt = 4 ∧ r.toInt = (σ (h0 + 1) 9).toInt) ∨ (what.toInt = 5 ∧ r.toInt = (σ (h0 + 1) 11).toInt) ∨ (what.toInt = 6 ∧ r.toInt = (σ (h0 + 56) 1).toInt) ∨ (what.toInt = 7 ∧ r.toInt = (σ (h0 + 1) 2).toInt) ∨ ((what.toInt < 0 ∨ 7 < what.toInt) ∧ r.toInt = -1000000001))) (zz_B E) (zz_A E)) 0 0 (zz_A E) := by
  refine zz_met (cc := cX8_count) (maxL := 2) (ret := (some .int)) (by decide) rfl (Nat.le_of_ble_eq_true rfl) ?_
  intro p e s m args below meth c ls hx hb hr hts hown hlocks hml hK hP hS hl
  have hl : lv_has ls 2 [(0, .ref h0), (1, .int what)] := hl
  have hown : s.vm.findClass RX8 = some m.cls := hown
  have hi2 : ∀ w ∈ wsX20, w ∈ wzX8_count := fun w h => List.mem_cons_of_mem _ (hbw2 w h)
  have hi5 : ∀ w ∈ wsX50, w ∈ wzX8_count := fun w h => List.mem_cons_of_mem _ (hbw5 w h)
  have hi8 : ∀ w ∈ wsX80, w ∈ wzX8_count := fun w h => List.mem_cons_of_mem _ (hbw8 w h)
  have k_1 : (1 : Int32).toInt = 1 := by decide +kernel
  replace t0 : σ (h0 + 1) 0 = σ (h0 + 1) 0 := rfl
  replace t1 : σ (h0 + 1) 1 = σ (h0 + 1) 1 := rfl
  replace t2 : σ (h0 + 1) 4 = σ (h0 + 1) 4 := rfl
  replace t3 : σ (h0 + 1) 6 = σ (h0 + 1) 6 := rfl
  have hC : zz_ch (fun a k => a = h0 + 24 ∨ a = h0 + 27 ∨ (h0 + 58 ≤ a ∧ a ≤ h0 + 67)) σ σ := zz_ch.rf σ
  obtain ⟨⟨hh, hsl, hd, hp, htc, hwc, ht, hft, hst, hid⟩, hkI, hsh, hspk⟩ := id hI
  refine lv_iload_n hx hb dX8_count_0 rfl (lv_at hl 1 rfl) ?_
  by_cases c1 : (what).toInt = 0
  · refine lv_tableIn (off := 47) (tgt := 48) hx hb dX8_count_1 (by omega) (by omega) (by rw [show ((what).toInt - (0)).toNat = 0 from by omega]; rfl) (by decide) ?_
    refine lv_aload_n hx hb dX8_count_48 rfl (lv_at hl 0 rfl) ?_
    refine zz_getr hx hb hts hi8 hown hK hP (g0.1) rfl 0 (by decide) (hts (.fieldLink RX8 10 "NoonLaw" "realm" "LNoonLaw$Realm;") (List.mem_cons_of_mem _ bm_16)) rfl rfl dX8_count_49 ?_
    refine zz_geti hx hb hts hi2 hown hK hP (g0.2.1.1) rfl 4 (by decide) (hts (.fieldLink RX8 198 "NoonLaw$Realm" "dreamCount" "I") (List.mem_cons_of_mem _ bm_172)) rfl rfl t2 dX8_count_52 ?_
    exact zz_iret hx hb hr hlocks hK hP hS dX8_count_55 (by exact ⟨hC, by omega⟩)
  by_cases c2 : (what).toInt = 1
  · refine lv_tableIn (off := 55) (tgt := 56) hx hb dX8_count_1 (by omega) (by omega) (by rw [show ((what).toInt - (0)).toNat = 1 from by omega]; rfl) (by decide) ?_
    refine lv_aload_n hx hb dX8_count_56 rfl (lv_at hl 0 rfl) ?_
    refine zz_getr hx hb hts hi8 hown hK hP (g0.1) rfl 0 (by decide) (hts (.fieldLink RX8 10 "NoonLaw" "realm" "LNoonLaw$Realm;") (List.mem_cons_of_mem _ bm_16)) rfl rfl dX8_count_57 ?_
    refine zz_geti hx hb hts hi2 hown hK hP (g0.2.1.1) rfl 6 (by decide) (hts (.fieldLink RX8 284 "NoonLaw$Realm" "peopleCount" "I") (List.mem_cons_of_mem _ bm_332)) rfl rfl t3 dX8_count_60 ?_
    exact zz_iret hx hb hr hlocks hK hP hS dX8_count_63 (by exact ⟨hC, by omega⟩)
  by_cases c3 : (what).toInt = 2
  · refine lv_tableIn (off := 63) (tgt := 64) hx hb dX8_count_1 (by omega) (by omega) (by rw [show ((what).toInt - (0)).toNat = 2 from by omega]; rfl) (by decide) ?_
    refine lv_aload_n hx hb dX8_count_64 rfl (lv_at hl 0 rfl) ?_
    refine zz_getr hx hb hts hi8 hown hK hP (g0.1) rfl 0 (by decide) (hts (.fieldLink RX8 10 "NoonLaw" "realm" "LNoonLaw$Realm;") (List.mem_cons_of_mem _ bm_16)) rfl rfl dX8_count_65 ?_
    refine zz_geti hx hb hts hi2 hown hK hP (g0.2.1.1) rfl 0 (by decide) (hts (.fieldLink RX8 104 "NoonLaw$Realm" "hour" "I") (List.mem_cons_of_mem _ bm_166)) rfl rfl t0 dX8_count_68 ?_
    exact zz_iret hx hb hr hlocks hK hP hS dX8_count_71 (by exact ⟨hC, by omega⟩)
  by_cases c4 : (what).toInt = 3
  · refine lv_tableIn (off := 71) (tgt := 72) hx hb dX8_count_1 (by omega) (by omega) (by rw [show ((what).toInt - (0)).toNat = 3 from by omega]; rfl) (by decide) ?_
    refine lv_aload_n hx hb dX8_count_72 rfl (lv_at hl 0 rfl) ?_
    refine zz_getr hx hb hts hi8 hown hK hP (g0.1) rfl 0 (by decide) (hts (.fieldLink RX8 10 "NoonLaw" "realm" "LNoonLaw$Realm;") (List.mem_cons_of_mem _ bm_16)) rfl rfl dX8_count_73 ?_
    refine zz_geti hx hb hts hi2 hown hK hP (g0.2.1.1) rfl 1 (by decide) (hts (.fieldLink RX8 107 "NoonLaw$Realm" "sleep" "I") (List.mem_cons_of_mem _ bm_167)) rfl rfl t1 dX8_count_76 ?_
    exact zz_iret hx hb hr hlocks hK hP hS dX8_count_79 (by exact ⟨hC, by omega⟩)
  by_cases c5 : (what).toInt = 4
  · refine lv_tableIn (off := 79) (tgt := 80) hx hb dX8_count_1 (by omega) (by omega) (by rw [show ((what).toInt - (0)).toNat = 4 from by omega]; rfl) (by decide) ?_
    refine lv_aload_n hx hb dX8_count_80 rfl (lv_at hl 0 rfl) ?_
    refine zz_getr hx hb hts hi8 hown hK hP (g0.1) rfl 0 (by decide) (hts (.fieldLink RX8 10 "NoonLaw" "realm" "LNoonLaw$Realm;") (List.mem_cons_of_mem _ bm_16)) rfl rfl dX8_count_81 ?_
    refine zz_geti hx hb hts hi2 hown hK hP (g0.2.1.1) rfl 9 (by decide) (hts (.fieldLink RX8 150 "NoonLaw$Realm" "tapeCount" "I") (List.mem_cons_of_mem _ bm_428)) rfl rfl rfl dX8_count_84 ?_
    exact zz_iret hx hb hr hlocks hK hP hS dX8_count_87 (by exact ⟨hC, by omega⟩)
  by_cases c6 : (what).toInt = 5
  · refine lv_tableIn (off := 87) (tgt := 88) hx hb dX8_count_1 (by omega) (by omega) (by rw [show ((what).toInt - (0)).toNat = 5 from by omega]; rfl) (by decide) ?_
    refine lv_aload_n hx hb dX8_count_88 rfl (lv_at hl 0 rfl) ?_
    refine zz_getr hx hb hts hi8 hown hK hP (g0.1) rfl 0 (by decide) (hts (.fieldLink RX8 10 "NoonLaw" "realm" "LNoonLaw$Realm;") (List.mem_cons_of_mem _ bm_16)) rfl rfl dX8_count_89 ?_
    refine zz_geti hx hb hts hi2 hown hK hP (g0.2.1.1) rfl 11 (by decide) (hts (.fieldLink RX8 294 "NoonLaw$Realm" "waitingCount" "I") (List.mem_cons_of_mem _ bm_990)) rfl rfl rfl dX8_count_92 ?_
    exact zz_iret hx hb hr hlocks hK hP hS dX8_count_95 (by exact ⟨hC, by omega⟩)
  by_cases c7 : (what).toInt = 6
  · refine lv_tableIn (off := 95) (tgt := 96) hx hb dX8_count_1 (by omega) (by omega) (by rw [show ((what).toInt - (0)).toNat = 6 from by omega]; rfl) (by decide) ?_
    refine lv_aload_n hx hb dX8_count_96 rfl (lv_at hl 0 rfl) ?_
    refine zz_getr hx hb hts hi8 hown hK hP (g0.1) rfl 4 (by decide) (hts (.fieldLink RX8 28 "NoonLaw" "speaker" "LNoonLaw$Speaker;") (List.mem_cons_of_mem _ bm_23)) rfl rfl dX8_count_97 ?_
    refine zz_geti hx hb hts hi5 hown hK hP (g0.2.2.2.2.2.1.1) rfl 1 (by decide) (hts (.fieldLink RX8 261 "NoonLaw$Speaker" "length" "I") (List.mem_cons_of_mem _ bm_878)) rfl rfl rfl dX8_count_100 ?_
    exact zz_iret hx hb hr hlocks hK hP hS dX8_count_103 (by exact ⟨hC, by omega⟩)
  by_cases c8 : (what).toInt = 7
  · refine lv_tableIn (off := 103) (tgt := 104) hx hb dX8_count_1 (by omega) (by omega) (by rw [show ((what).toInt - (0)).toNat = 7 from by omega]; rfl) (by decide) ?_
    refine lv_aload_n hx hb dX8_count_104 rfl (lv_at hl 0 rfl) ?_
    refine zz_getr hx hb hts hi8 hown hK hP (g0.1) rfl 0 (by decide) (hts (.fieldLink RX8 10 "NoonLaw" "realm" "LNoonLaw$Realm;") (List.mem_cons_of_mem _ bm_16)) rfl rfl dX8_count_105 ?_
    refine zz_geti hx hb hts hi2 hown hK hP (g0.2.1.1) rfl 2 (by decide) (hts (.fieldLink RX8 201 "NoonLaw$Realm" "z" "I") (List.mem_cons_of_mem _ bm_628)) rfl rfl rfl dX8_count_108 ?_
    exact zz_iret hx hb hr hlocks hK hP hS dX8_count_111 (by exact ⟨hC, by omega⟩)
  refine lv_tableOut (tgt := 112) hx hb dX8_count_1 (by omega) (by decide) ?_
  refine lv_aload_n hx hb dX8_count_112 rfl (lv_at hl 0 rfl) ?_
  refine lv_iconst (v := 1) hx hb dX8_count_113 (by decide) ?_
  refine zz_callVi (As := [.int 1]) (rest := []) ⟨hx, hb, hml, hown, hts⟩ hK hP hS (c_X8_refuse l E σ h0 1 g0 (by omega)) (cwV 1 hts gX8_count_X8_refuse rfl rfl rfl (by decide +kernel) ⟨Nat.le_of_ble_eq_true rfl, Nat.le_of_ble_eq_true rfl⟩) (g0.1) rfl rfl hl.1 rfl (Nat.le_of_ble_eq_true rfl) dX8_count_114 ⟨Nat.zero_le _, Nat.zero_le _⟩ (fun r9 σ9 H locs q9 hP1 hS1 => ?_)
  replace hP := hP1
  replace hS := hS1
  clear hP1 hS1
  try dsimp only at q9
  obtain ⟨w9, f9⟩ := q9
  replace hC := hC.tr (w9.mono (dS17_14 h0))
  replace t0 : σ9 (h0 + 1) 0 = σ (h0 + 1) 0 := (w9 (h0 + 1) 0 (dS17_5 h0)).trans t0
  replace t1 : σ9 (h0 + 1) 1 = σ (h0 + 1) 1 := (w9 (h0 + 1) 1 (dS17_5 h0)).trans t1
  replace t2 : σ9 (h0 + 1) 4 = σ (h0 + 1) 4 := (w9 (h0 + 1) 4 (dS17_5 h0)).trans t2
  replace t3 : σ9 (h0 + 1) 6 = σ (h0 + 1) 6 := (w9 (h0 + 1) 6 (dS17_5 h0)).trans t3
  exact zz_iret hx hb hr hlocks hK hP hS dX8_count_117 (by exact ⟨hC, by omega⟩)
