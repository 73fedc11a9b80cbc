theorem dS28_1 (x0 : Nat) : (x0) = x0 := by omega
set_option maxHeartbeats 4000000 in
set_option maxRecDepth 100000 in
theorem c_X9_copyAll (l : Launch) (E : zz_E) (σ : zz_S) (h1 : Nat) (h2 : Nat) (g_h1 : E.2.2.1 h1 = some (.inr (0, 399, none))) (g_h2 : E.2.2.1 h2 = some (.inr (0, 399, none))) (hap : h1 ≠ h2) : Met l yX9_copyAll wzX9_copyAll ({ frames := 0, cells := 0, slots := 0, locals := 0 }) (va_Pc [.ref h1, .ref h2] (zz_B E σ)) (va_Qv (fun σ1 => zz_ch (fun a k => a = h2) σ σ1 ∧ (∀ k : Nat, k < 399 → σ1 h2 k = σ h1 k)) (zz_B E) (zz_A E)) 0 0 (zz_A E) := by
  refine zz_met (cc := cX9_copyAll) (maxL := 3) (ret := none) (by decide) rfl (Nat.le_of_ble_eq_true rfl) ?_
  intro p e s m args below meth c ls hx hb hr hts hown hlocks hml hK hP hS hl
  have hl : lv_has ls 3 [(0, .ref h1), (1, .ref h2)] := hl
  have hown : s.vm.findClass RX9 = some m.cls := hown
  have k_0 : (0 : Int32).toInt = 0 := by decide +kernel
  have k_1 : (1 : Int32).toInt = 1 := by decide +kernel
  have k_399 : (399 : Int32).toInt = 399 := by decide +kernel
  have hC : zz_ch (fun a k => a = h2) σ σ := zz_ch.rf σ
  refine lv_iconst (v := 0) hx hb dX9_copyAll_0 (by decide) ?_
  refine lv_istore_n (lv' := [(2, .int 0), (0, .ref h1), (1, .ref h2)]) hx hb dX9_copyAll_1 rfl hl (by decide) rfl (fun ls hl => ?_)
  have J2 : ∀ (n : Nat) (ii : Int32) (σa : zz_S) (H : Heap) (locs : List Loc) (ls : Array Slot), ((399 - ii.toInt).toNat) < n → (zz_ch (fun a k => a = h2) σ σa) → (0 ≤ ii.toInt) → (∀ k : Nat, (k : Int) < ii.toInt → σa h2 k = σ h1 k) → zz_P E σa H → va_S (zz_A E) s.heap H locs → lv_has ls 3 [(2, .int ii), (0, .ref h1), (1, .ref h2)] → W p l e (headSpec wzX9_copyAll ({ frames := 0, cells := 0, slots := 0, locals := 0 })).room s m args below meth c H locs 0 0 (MQ below (va_Qv (fun σ1 => zz_ch (fun a k => a = h2) σ σ1 ∧ (∀ k : Nat, k < 399 → σ1 h2 k = σ h1 k)) (zz_B E) (zz_A E)) args s 0 0 (zz_A E)) (F0 m 2 ls []) := by
    intro n
    induction n with
    | zero => intro ii σa H locs ls hm; exact absurd hm (Nat.not_lt_zero _)
    | succ n ih2 =>
      intro ii σa H locs ls hm hC f2_0 f2_1 hP hS hl
      refine lv_iload_n hx hb dX9_copyAll_2 rfl (lv_at hl 0 rfl) ?_
      refine lv_sipush (v := 399) hx hb dX9_copyAll_3 (by decide) ?_
      refine lv_icmp_ge (tgt := 21) hx hb dX9_copyAll_6 (by decide) (fun c1 => ?_) (fun c1 => ?_)
      · have c1 := zz_leT c1
        exact zz_vret hx hb hr hlocks hK hP hS dX9_copyAll_21 (by exact ⟨hC, fun k hk => f2_1 k (by omega)⟩)
      · have c1 := zz_nleT c1
        refine lv_aload_n hx hb dX9_copyAll_9 rfl (lv_at hl 2 rfl) ?_
        refine lv_iload_n hx hb dX9_copyAll_10 rfl (lv_at hl 0 rfl) ?_
        refine lv_aload_n hx hb dX9_copyAll_11 rfl (lv_at hl 1 rfl) ?_
        refine lv_iload_n hx hb dX9_copyAll_12 rfl (lv_at hl 0 rfl) ?_
        refine zz_ialds (σ0 := σ) hx hb hK hP (g_h1) (fun k => hC _ k (by first | (dsimp only; omega) | omega)) (by omega) (by omega) dX9_copyAll_13 (fun j2 q2 r2 => ?_)
        skip
        refine zz_iast hx hb hK hP hS (g_h2) (by omega) (by omega) dX9_copyAll_14 (fun j3 σ3 H locs q3 r3 w3 hP1 hS1 => ?_)
        replace hP := hP1
        replace hS := hS1
        clear hP1 hS1
        replace hC := hC.u w3 (dS28_1 h2)
        obtain ⟨n4, e4⟩ : ∃ y : Int32, y = ii + 1 := ⟨_, rfl⟩
        have f4 : n4.toInt = (ii).toInt + (1) := by have h9 := zz_addT e4 (by omega) (by omega); omega
        refine lv_iinc (v := n4) (lv' := [(2, .int n4), (0, .ref h1), (1, .ref h2)]) hx hb dX9_copyAll_15 hl (k := 0) rfl (by rw [e4]; rfl) (by decide) rfl (fun ls hl => ?_)
        refine lv_goto (tgt := 2) hx hb dX9_copyAll_18 (by decide) ?_
        exact ih2 n4 σ3 _ _ _ (by omega) hC (by omega) (by intro k hk; exact if hq : k = j3 then (by rw [hq, w3, zz_us, show j2 = j3 from by omega]) else (by rw [w3, zz_un (by omega)]; exact f2_1 k (by omega))) hP hS (lv_sub hl [0, 1, 2] rfl)
  exact J2 _ 0 σ _ _ _ (Nat.lt_succ_self _) hC (by omega) (by intro k hk; omega) hP hS (lv_sub hl [0, 1, 2] rfl)
theorem gX9_image_X9_copyAll : GoodIn wzX9_image (va_wsS RX9 264 yX9_copyAll wzX9_copyAll) := wz_co bm_975 (wz_co bm_976 (wz_co bm_5 (wz_in bm_977)))
theorem dS28_2 (x0 : Nat) : ∀ a k : Nat, (a = (x0 + 2)) → ((a = x0 + 3 ∨ (x0 + 7 ≤ a ∧ a ≤ x0 + 11)) ∨ (a = x0 ∧ k = 2) ∨ a = x0 + 2) := by intro a k h; omega
theorem dS28_3 (x0 : Nat) : ¬ ((x0) = (x0 + 2)) := by omega
theorem dS28_4 (x0 : Nat) : ((x0) = x0 + 3 ∨ (x0 + 7 ≤ (x0) ∧ (x0) ≤ x0 + 11)) ∨ ((x0) = x0 ∧ (2) = 2) ∨ (x0) = x0 + 2 := by omega
set_option maxHeartbeats 4000000 in
set_option maxRecDepth 100000 in
theorem c_X9_image (l : Launch) (E : zz_E) (σ : zz_S) (h0 : Nat) (g0 : zz_M E h0) (hJ : zz_IM σ h0) : Met l yX9_image wzX9_image ({ frames := 1, cells := 0, slots := 0, locals := 22 }) (va_Pc [.ref h0] (zz_B E σ)) (va_Qi (fun r σ1 => zz_ch (fun a k => (a = h0 + 3 ∨ (h0 + 7 ≤ a ∧ a ≤ h0 + 11)) ∨ (a = h0 ∧ k = 2) ∨ a = h0 + 2) σ σ1 ∧ (zz_IM σ1 h0 ∧ r = σ1 h0 2 ∧ σ1 h0 2 = σ h0 2 + 1 ∧ ∀ k : Nat, k < 399 → σ1 (h0 + 2) k = σ (h0 + 1) k)) (zz_B E) (zz_A E)) 0 0 (zz_A E) := by
  refine zz_met (cc := cX9_image) (maxL := 1) (ret := (some .int)) (by decide) rfl (Nat.le_of_ble_eq_true rfl) ?_
  intro p e s m args below meth c ls hx hb hr hts hown hlocks hml hK hP hS hl
  have hl : lv_has ls 1 [(0, .ref h0)] := hl
  have hown : s.vm.findClass RX9 = some m.cls := hown
  have hi9 : ∀ w ∈ wsX90, w ∈ wzX9_image := fun w h => List.mem_cons_of_mem _ (hbw9 w h)
  have k_1 : (1 : Int32).toInt = 1 := by decide +kernel
  replace t0 : σ h0 2 = σ h0 2 := rfl
  have hC : zz_ch (fun a k => (a = h0 + 3 ∨ (h0 + 7 ≤ a ∧ a ≤ h0 + 11)) ∨ (a = h0 ∧ k = 2) ∨ a = h0 + 2) σ σ := zz_ch.rf σ
  have hI := hJ.1
  obtain ⟨hh, hsl, hd, hp, htc, hwc, hM, hT⟩ := id hI
  have hz5 := hJ.2.2.1
  have htr := hJ.2.2.2
  refine lv_aload_n hx hb dX9_image_0 rfl (lv_at hl 0 rfl) ?_
  refine zz_getr hx hb hts hi9 hown hK hP (g0.1) rfl 0 (by decide) (hts (.fieldLink RX9 9 "NoonLawModel" "row" "[I") (List.mem_cons_of_mem _ bm_93)) rfl rfl dX9_image_1 ?_
  refine lv_aload_n hx hb dX9_image_4 rfl (lv_at hl 0 rfl) ?_
  refine zz_getr hx hb hts hi9 hown hK hP (g0.1) rfl 1 (by decide) (hts (.fieldLink RX9 13 "NoonLawModel" "kept" "[I") (List.mem_cons_of_mem _ bm_94)) rfl rfl dX9_image_5 ?_
  refine zz_callSv (As := [.ref (h0 + 1), .ref (h0 + 2)]) (rest := []) ⟨hx, hb, hml, hown, hts⟩ hK hP hS (c_X9_copyAll l E σ (h0 + 1) (h0 + 2) (g0.2.1) (g0.2.2.1) (by omega)) (va_cwS 2 hts gX9_image_X9_copyAll rfl rfl rfl (by decide +kernel) ⟨Nat.le_of_ble_eq_true rfl, Nat.le_of_ble_eq_true rfl⟩) rfl hl.1 rfl (Nat.le_of_ble_eq_true rfl) dX9_image_8 ⟨Nat.zero_le _, Nat.zero_le _⟩ (fun σ1 H locs q1 hP1 hS1 => ?_)
  replace hP := hP1
  replace hS := hS1
  clear hP1 hS1
  try dsimp only at q1
  obtain ⟨w1, f1⟩ := q1
  replace hC := hC.tr (w1.mono (dS28_2 h0))
  replace t0 : σ1 h0 2 = σ h0 2 := (w1 h0 2 (dS28_3 h0)).trans t0
  refine lv_aload_n hx hb dX9_image_11 rfl (lv_at hl 0 rfl) ?_
  refine lv_dup hx hb dX9_image_12 rfl ?_
  refine zz_geti hx hb hts hi9 hown hK hP (g0.1) rfl 2 (by decide) (hts (.fieldLink RX9 268 "NoonLawModel" "images" "I") (List.mem_cons_of_mem _ bm_974)) rfl rfl t0 dX9_image_13 ?_
  refine lv_iconst (v := 1) hx hb dX9_image_16 (by decide) ?_
  refine lv_iadd hx hb dX9_image_17 ?_
  refine lv_topi (fun n2 e2 => ?_)
  skip
  refine zz_puti (v := n2) (ty := .int) hx hb hts hi9 tyX9 tyX9_ok nmX9 hown hK hP hS (g0.1) rfl 2 (by decide) (hts (.fieldLink RX9 268 "NoonLawModel" "images" "I") (List.mem_cons_of_mem _ bm_974)) rfl rfl (by decide +kernel) rfl rfl rfl dX9_image_18 (fun σ3 H locs w3 hP1 hS1 => ?_)
  replace hP := hP1
  replace hS := hS1
  clear hP1 hS1
  replace hC := hC.u w3 (dS28_4 h0)
  replace t0 : σ3 h0 2 = n2 := zz_w1 w3
  refine lv_aload_n hx hb dX9_image_21 rfl (lv_at hl 0 rfl) ?_
  refine zz_geti hx hb hts hi9 hown hK hP (g0.1) rfl 2 (by decide) (hts (.fieldLink RX9 268 "NoonLawModel" "images" "I") (List.mem_cons_of_mem _ bm_974)) rfl rfl t0 dX9_image_22 ?_
  exact zz_iret hx hb hr hlocks hK hP hS dX9_image_25 (by exact ⟨hC, ⟨hJ.1.keep (fun k => hC _ _ (by first | (dsimp only; omega) | omega)), hJ.1.copy (fun k hk => by rw [w3, zz_un (by omega)]; exact f1 k hk), (fun j hj => by rw [hC _ _ (by first | (dsimp only; omega) | omega)]; exact hz5 j hj), (by rw [hC _ _ (by first | (dsimp only; omega) | omega)]; exact htr)⟩, t0.symm, t0.trans (by rw [e2]), fun k hk => by rw [w3, zz_un (by omega)]; exact f1 k hk⟩)
theorem gX9_restore_X9_error : GoodIn wzX9_restore (wsV RX9 94 RX9 yX9_error wzX9_error) := wz_co bm_146 (wz_co bm_147 (wz_co bm_148 (wz_co bm_5 (wz_in bm_149))))
theorem gX9_restore_X9_copyAll : GoodIn wzX9_restore (va_wsS RX9 264 yX9_copyAll wzX9_copyAll) := wz_co bm_975 (wz_co bm_976 (wz_co bm_5 (wz_in bm_977)))
theorem dS28_5 (x0 : Nat) : ∀ a k : Nat, (a = (x0 + 1)) → ((a = x0 + 3 ∨ (x0 + 7 ≤ a ∧ a ≤ x0 + 11)) ∨ a = x0 + 1) := by intro a k h; omega
theorem dS28_6 (x0 : Nat) : ∀ a k : Nat, (a = (x0) + 3) → ((a = x0 + 3 ∨ (x0 + 7 ≤ a ∧ a ≤ x0 + 11)) ∨ a = x0 + 1) := by intro a k h; omega
set_option maxHeartbeats 4000000 in
set_option maxRecDepth 100000 in
theorem c_X9_restore (l : Launch) (E : zz_E) (σ : zz_S) (h0 : Nat) (g0 : zz_M E h0) (hJ : zz_IM σ h0) : Met l yX9_restore wzX9_restore ({ frames := 1, cells := 0, slots := 0, locals := 22 }) (va_Pc [.ref h0] (zz_B E σ)) (va_Qi (fun r σ1 => zz_ch (fun a k => (a = h0 + 3 ∨ (h0 + 7 ≤ a ∧ a ≤ h0 + 11)) ∨ a = h0 + 1) σ σ1 ∧ (zz_IM σ1 h0 ∧ (((σ h0 2).toInt = 0 ∧ r.toInt = -1000000002 ∧ ∀ k, σ1 (h0 + 1) k = σ (h0 + 1) k) ∨ ((σ h0 2).toInt ≠ 0 ∧ r = σ (h0 + 2) 0 ∧ ∀ k : Nat, k < 399 → σ1 (h0 + 1) k = σ (h0 + 2) k)))) (zz_B E) (zz_A E)) 0 0 (zz_A E) := by
  refine zz_met (cc := cX9_restore) (maxL := 1) (ret := (some .int)) (by decide) rfl (Nat.le_of_ble_eq_true rfl) ?_
  intro p e s m args below meth c ls hx hb hr hts hown hlocks hml hK hP hS hl
  have hl : lv_has ls 1 [(0, .ref h0)] := hl
  have hown : s.vm.findClass RX9 = some m.cls := hown
  have hi9 : ∀ w ∈ wsX90, w ∈ wzX9_restore := fun w h => List.mem_cons_of_mem _ (hbw9 w h)
  have k_m1000000002 : ((-1000000002) : Int32).toInt = -1000000002 := by decide +kernel
  have k_0 : (0 : Int32).toInt = 0 := by decide +kernel
  have hC : zz_ch (fun a k => (a = h0 + 3 ∨ (h0 + 7 ≤ a ∧ a ≤ h0 + 11)) ∨ a = h0 + 1) σ σ := zz_ch.rf σ
  have hI := hJ.1
  obtain ⟨hh, hsl, hd, hp, htc, hwc, hM, hT⟩ := id hI
  have hz5 := hJ.2.2.1
  have htr := hJ.2.2.2
  refine lv_aload_n hx hb dX9_restore_0 rfl (lv_at hl 0 rfl) ?_
  refine zz_geti hx hb hts hi9 hown hK hP (g0.1) rfl 2 (by decide) (hts (.fieldLink RX9 268 "NoonLawModel" "images" "I") (List.mem_cons_of_mem _ bm_974)) rfl rfl rfl dX9_restore_1 ?_
  refine lv_if_ne (tgt := 14) hx hb dX9_restore_4 (by decide) (fun c1 => ?_) (fun c1 => ?_)
  · have c1 := zz_neT c1
    refine lv_aload_n hx hb dX9_restore_14 rfl (lv_at hl 0 rfl) ?_
    refine zz_getr hx hb hts hi9 hown hK hP (g0.1) rfl 1 (by decide) (hts (.fieldLink RX9 13 "NoonLawModel" "kept" "[I") (List.mem_cons_of_mem _ bm_94)) rfl rfl dX9_restore_15 ?_
    refine lv_aload_n hx hb dX9_restore_18 rfl (lv_at hl 0 rfl) ?_
    refine zz_getr hx hb hts hi9 hown hK hP (g0.1) rfl 0 (by decide) (hts (.fieldLink RX9 9 "NoonLawModel" "row" "[I") (List.mem_cons_of_mem _ bm_93)) rfl rfl dX9_restore_19 ?_
    refine zz_callSv (As := [.ref (h0 + 2), .ref (h0 + 1)]) (rest := []) ⟨hx, hb, hml, hown, hts⟩ hK hP hS (c_X9_copyAll l E σ (h0 + 2) (h0 + 1) (g0.2.2.1) (g0.2.1) (by omega)) (va_cwS 2 hts gX9_restore_X9_copyAll rfl rfl rfl (by decide +kernel) ⟨Nat.le_of_ble_eq_true rfl, Nat.le_of_ble_eq_true rfl⟩) rfl hl.1 rfl (Nat.le_of_ble_eq_true rfl) dX9_restore_22 ⟨Nat.zero_le _, Nat.zero_le _⟩ (fun σ2 H locs q2 hP1 hS1 => ?_)
    replace hP := hP1
    replace hS := hS1
    clear hP1 hS1
    try dsimp only at q2
    obtain ⟨w2, f2⟩ := q2
    replace hC := hC.tr (w2.mono (dS28_5 h0))
    refine lv_aload_n hx hb dX9_restore_25 rfl (lv_at hl 0 rfl) ?_
    refine zz_getr hx hb hts hi9 hown hK hP (g0.1) rfl 0 (by decide) (hts (.fieldLink RX9 9 "NoonLawModel" "row" "[I") (List.mem_cons_of_mem _ bm_93)) rfl rfl dX9_restore_26 ?_
    refine lv_iconst (v := 0) hx hb dX9_restore_29 (by decide) ?_
    refine zz_ialc hx hb hK hP (g0.2.1) 0 (by decide) (by decide) rfl dX9_restore_30 ?_
    exact zz_iret hx hb hr hlocks hK hP hS dX9_restore_31 (by exact ⟨hC, ⟨hJ.2.1.copy f2, hJ.2.1.keep (fun k => hC _ _ (by first | (dsimp only; omega) | omega)), (fun j hj => by rw [hC _ _ (by first | (dsimp only; omega) | omega)]; exact hz5 j hj), (by rw [hC _ _ (by first | (dsimp only; omega) | omega)]; exact htr)⟩, Or.inr ⟨by omega, f2 0 (by omega), f2⟩⟩)
  · have c1 := zz_eqT c1
    refine lv_aload_n hx hb dX9_restore_7 rfl (lv_at hl 0 rfl) ?_
    refine lv_ldc (v := (-1000000002)) hx hb hown (hts (.constant RX9 198 (-1000000002)) (List.mem_cons_of_mem _ bm_687)) dX9_restore_8 ?_
    refine zz_callVi (As := [.int (-1000000002)]) (rest := []) ⟨hx, hb, hml, hown, hts⟩ hK hP hS (c_X9_error l E σ h0 (-1000000002) g0 (by omega)) (cwV 1 hts gX9_restore_X9_error rfl rfl rfl (by decide +kernel) ⟨Nat.le_of_ble_eq_true rfl, Nat.le_of_ble_eq_true rfl⟩) (g0.1) rfl rfl hl.1 rfl (Nat.le_of_ble_eq_true rfl) dX9_restore_10 ⟨Nat.zero_le _, Nat.zero_le _⟩ (fun r4 σ4 H locs q4 hP1 hS1 => ?_)
    replace hP := hP1
    replace hS := hS1
    clear hP1 hS1
    try dsimp only at q4
    obtain ⟨w4, f4⟩ := q4
    replace hC := hC.tr (w4.mono (dS28_6 h0))
    exact zz_iret hx hb hr hlocks hK hP hS dX9_restore_13 (by exact ⟨hC, (hJ.soft (w4.mono (by intro a k h; omega))), Or.inl ⟨by omega, by omega, fun k => w4 _ _ (by first | (dsimp only; omega) | omega)⟩⟩)
theorem gX9_sheet_X9_isSheet : GoodIn wzX9_sheet (va_wsS RX9 257 yX9_isSheet wzX9_isSheet) := wz_co bm_781 (wz_co bm_782 (wz_co bm_5 (wz_in bm_783)))
theorem gX9_sheet_X9_error : GoodIn wzX9_sheet (wsV RX9 94 RX9 yX9_error wzX9_error) := wz_co bm_146 (wz_co bm_147 (wz_co bm_148 (wz_co bm_5 (wz_in bm_149))))
theorem dS28_7 (x0 : Nat) : ∀ a k : Nat, (a = (x0) + 3) → ((a = x0 + 3 ∨ (x0 + 7 ≤ a ∧ a ≤ x0 + 11)) ∨ a = x0 + 4 ∨ a = x0 + 5 ∨ a = x0 + 6) := by intro a k h; omega
theorem dS28_8 (x0 : Nat) : ((x0 + 4) = x0 + 3 ∨ (x0 + 7 ≤ (x0 + 4) ∧ (x0 + 4) ≤ x0 + 11)) ∨ (x0 + 4) = x0 + 4 ∨ (x0 + 4) = x0 + 5 ∨ (x0 + 4) = x0 + 6 := by omega
theorem dS28_9 (x0 : Nat) : ((x0 + 5) = x0 + 3 ∨ (x0 + 7 ≤ (x0 + 5) ∧ (x0 + 5) ≤ x0 + 11)) ∨ (x0 + 5) = x0 + 4 ∨ (x0 + 5) = x0 + 5 ∨ (x0 + 5) = x0 + 6 := by omega
theorem dS28_10 (x0 : Nat) : ((x0 + 6) = x0 + 3 ∨ (x0 + 7 ≤ (x0 + 6) ∧ (x0 + 6) ≤ x0 + 11)) ∨ (x0 + 6) = x0 + 4 ∨ (x0 + 6) = x0 + 5 ∨ (x0 + 6) = x0 + 6 := by omega
set_option maxHeartbeats 4000000 in
set_option maxRecDepth 100000 in
theorem c_X9_sheet (l : Launch) (E : zz_E) (σ : zz_S) (h0 : Nat) (sh : Int32) (bi : Int32) (nn : Int32) (g0 : zz_M E h0) (hJ : zz_IM σ h0) : Met l yX9_sheet wzX9_sheet ({ frames := 2, cells := 0, slots := 0, locals := 42 }) (va_Pc [.ref h0, .int sh, .int bi, .int nn] (zz_B E σ)) (va_Qi (fun r σ1 => zz_ch (fun a k => (a = h0 + 3 ∨ (h0 + 7 ≤ a ∧ a ≤ h0 + 11)) ∨ a = h0 + 4 ∨ a = h0 + 5 ∨ a = h0 + 6) σ σ1 ∧ (zz_IM σ1 h0 ∧ zz_sheet sh.toInt bi.toInt nn.toInt r.toInt ∧ (r.toInt < 0 → zz_HM σ1 (h0 + 4) = zz_HM σ (h0 + 4) ∧ zz_HM σ1 (h0 + 5) = zz_HM σ (h0 + 5) ∧ zz_CM σ1 (h0 + 6) = zz_CM σ (h0 + 6)) ∧ (0 ≤ r.toInt → zz_HM σ1 (h0 + 4) = zz_wn (zz_HM σ (h0 + 4)) sh.toInt bi.toInt ∧ zz_HM σ1 (h0 + 5) = zz_wn (zz_HM σ (h0 + 5)) sh.toInt (if bi.toInt = 0 then 0 else nn.toInt) ∧ zz_CM σ1 (h0 + 6) = zz_cz (zz_CM σ (h0 + 6)) sh.toInt))) (zz_B E) (zz_A E)) 0 0 (zz_A E) := by
  refine zz_met (cc := cX9_sheet) (maxL := 5) (ret := (some .int)) (by decide) rfl (Nat.le_of_ble_eq_true rfl) ?_
  intro p e s m args below meth c ls hx hb hr hts hown hlocks hml hK hP hS hl
  have hl : lv_has ls 5 [(0, .ref h0), (1, .int sh), (2, .int bi), (3, .int nn)] := hl
  have hown : s.vm.findClass RX9 = some m.cls := hown
  have hi9 : ∀ w ∈ wsX90, w ∈ wzX9_sheet := fun w h => List.mem_cons_of_mem _ (hbw9 w h)
  have k_m1000000003 : ((-1000000003) : Int32).toInt = -1000000003 := by decide +kernel
  have k_m1000000001 : ((-1000000001) : Int32).toInt = -1000000001 := by decide +kernel
  have k_0 : (0 : Int32).toInt = 0 := by decide +kernel
  have k_1 : (1 : Int32).toInt = 1 := by decide +kernel
  have k_8 : (8 : Int32).toInt = 8 := by decide +kernel
  have k_16 : (16 : Int32).toInt = 16 := by decide +kernel
  have k_24 : (24 : Int32).toInt = 24 := by decide +kernel
  have k_32 : (32 : Int32).toInt = 32 := by decide +kernel
  have hC : zz_ch (fun a k => (a = h0 + 3 ∨ (h0 + 7 ≤ a ∧ a ≤ h0 + 11)) ∨ a = h0 + 4 ∨ a = h0 + 5 ∨ a = h0 + 6) σ σ := zz_ch.rf σ
  have hI := hJ.1
  obtain ⟨hh, hsl, hd, hp, htc, hwc, hM, hT⟩ := id hI
  have hz5 := hJ.2.2.1
  have htr := hJ.2.2.2
  refine lv_iload_n hx hb dX9_sheet_0 rfl (lv_at hl 1 rfl) ?_
  refine zz_callSp (As := [.int sh]) (rest := []) ⟨hx, hb, hml, hown, hts⟩ hK hP hS (c_X9_isSheet l E σ sh) (va_cwS 1 hts gX9_sheet_X9_isSheet rfl rfl rfl (by decide +kernel) ⟨Nat.le_of_ble_eq_true rfl, Nat.le_of_ble_eq_true rfl⟩) rfl hl.1 rfl (Nat.le_of_ble_eq_true rfl) dX9_sheet_1 ⟨Nat.zero_le _, Nat.zero_le _⟩ (fun r1 H locs f1 hP1 hS1 => ?_)
  replace hP := hP1
  replace hS := hS1
  clear hP1 hS1
  refine lv_if_eq (tgt := 29) hx hb dX9_sheet_4 (by decide) (fun c2 => ?_) (fun c2 => ?_)
  · have c2 := zz_eqT c2
    refine lv_aload_n hx hb dX9_sheet_29 rfl (lv_at hl 0 rfl) ?_
    refine lv_ldc (v := (-1000000001)) hx hb hown (hts (.constant RX9 93 (-1000000001)) (List.mem_cons_of_mem _ bm_138)) dX9_sheet_30 ?_
    refine zz_callVi (As := [.int (-1000000001)]) (rest := []) ⟨hx, hb, hml, hown, hts⟩ hK hP hS (c_X9_error l E σ h0 (-1000000001) g0 (by omega)) (cwV 1 hts gX9_sheet_X9_error rfl rfl rfl (by decide +kernel) ⟨Nat.le_of_ble_eq_true rfl, Nat.le_of_ble_eq_true rfl⟩) (g0.1) rfl rfl hl.1 rfl (Nat.le_of_ble_eq_true rfl) dX9_sheet_32 ⟨Nat.zero_le _, Nat.zero_le _⟩ (fun r3 σ3 H locs q3 hP1 hS1 => ?_)
    replace hP := hP1
    replace hS := hS1
    clear hP1 hS1
    try dsimp only at q3
    obtain ⟨w3, f3⟩ := q3
    replace hC := hC.tr (w3.mono (dS28_7 h0))
    exact zz_iret hx hb hr hlocks hK hP hS dX9_sheet_35 (by exact ⟨hC, (hJ.soft (w3.mono (by intro a k h; omega))), (by unfold zz_sheet; omega), (fun _ => ⟨zz_HM.eq (fun j hj => w3 _ _ (by first | (dsimp only; omega) | omega)), zz_HM.eq (fun j hj => w3 _ _ (by first | (dsimp only; omega) | omega)), zz_CM.eq (fun k hk => w3 _ _ (by first | (dsimp only; omega) | omega))⟩), (fun q => absurd q (by omega))⟩)
  · have c2 := zz_neT c2
    refine lv_iload_n hx hb dX9_sheet_7 rfl (lv_at hl 2 rfl) ?_
    refine lv_if_eq (tgt := 36) hx hb dX9_sheet_8 (by decide) (fun c4 => ?_) (fun c4 => ?_)
    · have c4 := zz_eqT c4
      refine lv_iload_n hx hb dX9_sheet_36 rfl (lv_at hl 2 rfl) ?_
      refine lv_if_le (tgt := 51) hx hb dX9_sheet_37 (by decide) (fun c5 => ?_) (fun c5 => ?_)
      · have c5 := zz_leT c5
        refine lv_iload_n hx hb dX9_sheet_51 rfl (lv_at hl 2 rfl) ?_
        refine lv_if_le (tgt := 68) hx hb dX9_sheet_52 (by decide) (fun c6 => ?_) (fun c6 => ?_)
        · have c6 := zz_leT c6
          refine lv_aload_n hx hb dX9_sheet_68 rfl (lv_at hl 0 rfl) ?_
          refine zz_getr hx hb hts hi9 hown hK hP (g0.1) rfl 4 (by decide) (hts (.fieldLink RX9 19 "NoonLawModel" "bitsOf" "[I") (List.mem_cons_of_mem _ bm_96)) rfl rfl dX9_sheet_69 ?_
          refine lv_iload_n hx hb dX9_sheet_72 rfl (lv_at hl 1 rfl) ?_
          refine lv_iload_n hx hb dX9_sheet_73 rfl (lv_at hl 2 rfl) ?_
          refine zz_iast hx hb hK hP hS (g0.2.2.2.2.1) (by omega) (by omega) dX9_sheet_74 (fun j7 σ7 H locs q7 r7 w7 hP1 hS1 => ?_)
          replace hP := hP1
          replace hS := hS1
          clear hP1 hS1
          replace hC := hC.u w7 (dS28_8 h0)
          refine lv_aload_n hx hb dX9_sheet_75 rfl (lv_at hl 0 rfl) ?_
          refine zz_getr hx hb hts hi9 hown hK hP (g0.1) rfl 5 (by decide) (hts (.fieldLink RX9 22 "NoonLawModel" "sizeOf" "[I") (List.mem_cons_of_mem _ bm_97)) rfl rfl dX9_sheet_76 ?_
          refine lv_iload_n hx hb dX9_sheet_79 rfl (lv_at hl 1 rfl) ?_
          refine lv_iload_n hx hb dX9_sheet_80 rfl (lv_at hl 2 rfl) ?_
          refine lv_if_ne (tgt := 88) hx hb dX9_sheet_81 (by decide) (fun c8 => ?_) (fun c8 => ?_)
          · have c8 := zz_neT c8
            refine lv_iload_n hx hb dX9_sheet_88 rfl (lv_at hl 3 rfl) ?_
            refine zz_iast hx hb hK hP hS (g0.2.2.2.2.2.1) (by omega) (by omega) dX9_sheet_89 (fun j9 σ9 H locs q9 r9 w9 hP1 hS1 => ?_)
            replace hP := hP1
            replace hS := hS1
            clear hP1 hS1
            replace hC := hC.u w9 (dS28_9 h0)
            refine lv_iconst (v := 0) hx hb dX9_sheet_90 (by decide) ?_
            refine lv_istore (lv' := [(4, .int 0), (0, .ref h0), (1, .int sh), (2, .int bi), (3, .int nn)]) hx hb dX9_sheet_91 hl (by decide) rfl (fun ls hl => ?_)
            have J93 : ∀ (n : Nat) (ii : Int32) (σa : zz_S) (H : Heap) (locs : List Loc) (ls : Array Slot), ((24 - ii.toInt).toNat) < n → (zz_ch (fun a k => (a = h0 + 3 ∨ (h0 + 7 ≤ a ∧ a ≤ h0 + 11)) ∨ a = h0 + 4 ∨ a = h0 + 5 ∨ a = h0 + 6) σ σa) → (0 ≤ ii.toInt) → (∀ j : Nat, j < 4 → 0 ≤ (σa (h0 + 5) j).toInt ∧ (σa (h0 + 5) j).toInt ≤ 24) → (zz_HM σa (h0 + 4) = zz_wn (zz_HM σ (h0 + 4)) sh.toInt bi.toInt) → (zz_HM σa (h0 + 5) = zz_wn (zz_HM σ (h0 + 5)) sh.toInt (if bi.toInt = 0 then 0 else nn.toInt)) → (∀ k : Nat, (k : Int) < ii.toInt → (σa (h0 + 6) (24 * sh.toInt.toNat + k)).toInt = 0) → (∀ i : Nat, i < 96 → (i < 24 * sh.toInt.toNat ∨ 24 * sh.toInt.toNat + 24 ≤ i) → σa (h0 + 6) i = σ (h0 + 6) i) → zz_P E σa H → va_S (zz_A E) s.heap H locs → lv_has ls 5 [(4, .int ii), (0, .ref h0), (1, .int sh), (2, .int bi), (3, .int nn)] → W p l e (headSpec wzX9_sheet ({ frames := 2, cells := 0, slots := 0, locals := 42 })).room s m args below meth c H locs 0 0 (MQ below (va_Qi (fun r σ1 => zz_ch (fun a k => (a = h0 + 3 ∨ (h0 + 7 ≤ a ∧ a ≤ h0 + 11)) ∨ a = h0 + 4 ∨ a = h0 + 5 ∨ a = h0 + 6) σ σ1 ∧ (zz_IM σ1 h0 ∧ zz_sheet sh.toInt bi.toInt nn.toInt r.toInt ∧ (r.toInt < 0 → zz_HM σ1 (h0 + 4) = zz_HM σ (h0 + 4) ∧ zz_HM σ1 (h0 + 5) = zz_HM σ (h0 + 5) ∧ zz_CM σ1 (h0 + 6) = zz_CM σ (h0 + 6)) ∧ (0 ≤ r.toInt → zz_HM σ1 (h0 + 4) = zz_wn (zz_HM σ (h0 + 4)) sh.toInt bi.toInt ∧ zz_HM σ1 (h0 + 5) = zz_wn (zz_HM σ (h0 + 5)) sh.toInt (if bi.toInt = 0 then 0 else nn.toInt) ∧ zz_CM σ1 (h0 + 6) = zz_cz (zz_CM σ (h0 + 6)) sh.toInt))) (zz_B E) (zz_A E)) args s 0 0 (zz_A E)) (F0 m 93 ls []) := by
              intro n
              induction n with
              | zero => intro ii σa H locs ls hm; exact absurd hm (Nat.not_lt_zero _)
              | succ n ih93 =>
                intro ii σa H locs ls hm hC f93_0 f93_1 f93_2 f93_3 f93_4 f93_5 hP hS hl
                refine lv_iload hx hb dX9_sheet_93 (lv_at hl 0 rfl) ?_
                refine lv_bipush (v := 24) hx hb dX9_sheet_95 (by decide) ?_
                refine lv_icmp_ge (tgt := 119) hx hb dX9_sheet_97 (by decide) (fun c10 => ?_) (fun c10 => ?_)
                · have c10 := zz_leT c10
                  refine lv_iconst (v := 1) hx hb dX9_sheet_119 (by decide) ?_
                  exact zz_iret hx hb hr hlocks hK hP hS dX9_sheet_120 (by exact ⟨hC, ⟨hJ.1.keep (fun k => hC _ _ (by first | (dsimp only; omega) | omega)), hJ.2.1.keep (fun k => hC _ _ (by first | (dsimp only; omega) | omega)), f93_1, (by rw [hC _ _ (by first | (dsimp only; omega) | omega)]; exact htr)⟩, (by unfold zz_sheet; omega), (fun q => absurd q (by omega)), (fun _ => ⟨f93_2, f93_3, zz_CM.cz (j0 := sh.toInt.toNat) (by omega) (by omega) (fun k hk => f93_4 k (by omega)) (fun i hi hq => f93_5 i hi (by omega))⟩)⟩)
                · have c10 := zz_nleT c10
                  refine lv_aload_n hx hb dX9_sheet_100 rfl (lv_at hl 1 rfl) ?_
                  refine zz_getr hx hb hts hi9 hown hK hP (g0.1) rfl 6 (by decide) (hts (.fieldLink RX9 25 "NoonLawModel" "cells" "[I") (List.mem_cons_of_mem _ bm_98)) rfl rfl dX9_sheet_101 ?_
                  refine lv_bipush (v := 24) hx hb dX9_sheet_104 (by decide) ?_
                  refine lv_iload_n hx hb dX9_sheet_106 rfl (lv_at hl 2 rfl) ?_
                  refine lv_imul hx hb dX9_sheet_107 ?_
                  refine lv_topi (fun n11 e11 => ?_)
                  have f11 : n11.toInt = 24 * (sh).toInt := zz_mulL 24 e11 (by decide) (by omega) (by omega)
                  refine lv_iload hx hb dX9_sheet_108 (lv_at hl 0 rfl) ?_
                  refine lv_iadd hx hb dX9_sheet_110 ?_
                  refine lv_topi (fun n12 e12 => ?_)
                  have f12 : n12.toInt = (n11).toInt + (ii).toInt := zz_addT e12 (by omega) (by omega)
                  refine lv_iconst (v := 0) hx hb dX9_sheet_111 (by decide) ?_
                  refine zz_iast hx hb hK hP hS (g0.2.2.2.2.2.2.1) (by omega) (by omega) dX9_sheet_112 (fun j13 σ13 H locs q13 r13 w13 hP1 hS1 => ?_)
                  replace hP := hP1
                  replace hS := hS1
                  clear hP1 hS1
                  replace hC := hC.u w13 (dS28_10 h0)
                  obtain ⟨n14, e14⟩ : ∃ y : Int32, y = ii + 1 := ⟨_, rfl⟩
                  have f14 : n14.toInt = (ii).toInt + (1) := by have h9 := zz_addT e14 (by omega) (by omega); omega
                  refine lv_iinc (v := n14) (lv' := [(4, .int n14), (0, .ref h0), (1, .int sh), (2, .int bi), (3, .int nn)]) hx hb dX9_sheet_113 hl (k := 0) rfl (by rw [e14]; rfl) (by decide) rfl (fun ls hl => ?_)
                  refine lv_goto (tgt := 93) hx hb dX9_sheet_116 (by decide) ?_
                  exact ih93 n14 σ13 _ _ _ (by omega) hC (by first | omega | exact hI | exact hT) (by intro j hj; rw [w13, zz_un (by omega)]; exact f93_1 j hj) (by rw [zz_HMo (a := h0 + 4) w13 (by omega)]; exact f93_2) (by rw [zz_HMo (a := h0 + 5) w13 (by omega)]; exact f93_3) (by intro k hk; exact if hq : 24 * sh.toInt.toNat + k = j13 then (by rw [hq, w13, zz_us]; exact k_0) else (by rw [w13, zz_un (by omega)]; exact f93_4 k (by omega))) (by intro i hi hq; rw [w13, zz_un (by omega)]; exact f93_5 i hi hq) hP hS (lv_sub hl [0, 1, 2, 3, 4] rfl)
            exact J93 _ 0 σ9 _ _ _ (Nat.lt_succ_self _) hC (by first | omega | exact hI | exact hT) (by intro j hj; exact if hq : j = j9 then (by rw [hq, w9, zz_us]; omega) else (by rw [w9, zz_un (by omega), w7, zz_un (by omega)]; exact hz5 j hj)) (by rw [zz_HMo (a := h0 + 4) w9 (by omega), zz_HMw w7 (by omega : (j7 : Int) = sh.toInt) (by omega)]) (by rw [zz_HMw w9 (by omega : (j9 : Int) = sh.toInt) (by omega), zz_HMo (a := h0 + 5) w7 (by omega), if_neg (by omega)]) (by intro k hk; omega) (by intro i hi hq; rw [w9, zz_un (by omega), w7, zz_un (by omega)]) hP hS (lv_sub hl [0, 1, 2, 3, 4] rfl)
          · have c8 := zz_eqT c8
            refine lv_iconst (v := 0) hx hb dX9_sheet_84 (by decide) ?_
            refine lv_goto (tgt := 89) hx hb dX9_sheet_85 (by decide) ?_
            refine zz_iast hx hb hK hP hS (g0.2.2.2.2.2.1) (by omega) (by omega) dX9_sheet_89 (fun j15 σ15 H locs q15 r15 w15 hP1 hS1 => ?_)
            replace hP := hP1
            replace hS := hS1
            clear hP1 hS1
            replace hC := hC.u w15 (dS28_9 h0)
            refine lv_iconst (v := 0) hx hb dX9_sheet_90 (by decide) ?_
            refine lv_istore (lv' := [(4, .int 0), (0, .ref h0), (1, .int sh), (2, .int bi), (3, .int nn)]) hx hb dX9_sheet_91 hl (by decide) rfl (fun ls hl => ?_)
            have J93 : ∀ (n : Nat) (ii : Int32) (σa : zz_S) (H : Heap) (locs : List Loc) (ls : Array Slot), ((24 - ii.toInt).toNat) < n → (zz_ch (fun a k => (a = h0 + 3 ∨ (h0 + 7 ≤ a ∧ a ≤ h0 + 11)) ∨ a = h0 + 4 ∨ a = h0 + 5 ∨ a = h0 + 6) σ σa) → (0 ≤ ii.toInt) → (∀ j : Nat, j < 4 → 0 ≤ (σa (h0 + 5) j).toInt ∧ (σa (h0 + 5) j).toInt ≤ 24) → (zz_HM σa (h0 + 4) = zz_wn (zz_HM σ (h0 + 4)) sh.toInt bi.toInt) → (zz_HM σa (h0 + 5) = zz_wn (zz_HM σ (h0 + 5)) sh.toInt (if bi.toInt = 0 then 0 else nn.toInt)) → (∀ k : Nat, (k : Int) < ii.toInt → (σa (h0 + 6) (24 * sh.toInt.toNat + k)).toInt = 0) → (∀ i : Nat, i < 96 → (i < 24 * sh.toInt.toNat ∨ 24 * sh.toInt.toNat + 24 ≤ i) → σa (h0 + 6) i = σ (h0 + 6) i) → zz_P E σa H → va_S (zz_A E) s.heap H locs → lv_has ls 5 [(4, .int ii), (0, .ref h0), (1, .int sh), (2, .int bi), (3, .int nn)] → W p l e (headSpec wzX9_sheet ({ frames := 2, cells := 0, slots := 0, locals := 42 })).room s m args below meth c H locs 0 0 (MQ below (va_Qi (fun r σ1 => zz_ch (fun a k => (a = h0 + 3 ∨ (h0 + 7 ≤ a ∧ a ≤ h0 + 11)) ∨ a = h0 + 4 ∨ a = h0 + 5 ∨ a = h0 + 6) σ σ1 ∧ (zz_IM σ1 h0 ∧ zz_sheet sh.toInt bi.toInt nn.toInt r.toInt ∧ (r.toInt < 0 → zz_HM σ1 (h0 + 4) = zz_HM σ (h0 + 4) ∧ zz_HM σ1 (h0 + 5) = zz_HM σ (h0 + 5) ∧ zz_CM σ1 (h0 + 6) = zz_CM σ (h0 + 6)) ∧ (0 ≤ r.toInt → zz_HM σ1 (h0 + 4) = zz_wn (zz_HM σ (h0 + 4)) sh.toInt bi.toInt ∧ zz_HM σ1 (h0 + 5) = zz_wn (zz_HM σ (h0 + 5)) sh.toInt (if bi.toInt = 0 then 0 else nn.toInt) ∧ zz_CM σ1 (h0 + 6) = zz_cz (zz_CM σ (h0 + 6)) sh.toInt))) (zz_B E) (zz_A E)) args s 0 0 (zz_A E)) (F0 m 93 ls []) := by
              intro n
              induction n with
              | zero => intro ii σa H locs ls hm; exact absurd hm (Nat.not_lt_zero _)
              | succ n ih93 =>
                intro ii σa H locs ls hm hC f93_0 f93_1 f93_2 f93_3 f93_4 f93_5 hP hS hl
                refine lv_iload hx hb dX9_sheet_93 (lv_at hl 0 rfl) ?_
                refine lv_bipush (v := 24) hx hb dX9_sheet_95 (by decide) ?_
                refine lv_icmp_ge (tgt := 119) hx hb dX9_sheet_97 (by decide) (fun c16 => ?_) (fun c16 => ?_)
                · have c16 := zz_leT c16
                  refine lv_iconst (v := 1) hx hb dX9_sheet_119 (by decide) ?_
                  exact zz_iret hx hb hr hlocks hK hP hS dX9_sheet_120 (by exact ⟨hC, ⟨hJ.1.keep (fun k => hC _ _ (by first | (dsimp only; omega) | omega)), hJ.2.1.keep (fun k => hC _ _ (by first | (dsimp only; omega) | omega)), f93_1, (by rw [hC _ _ (by first | (dsimp only; omega) | omega)]; exact htr)⟩, (by unfold zz_sheet; omega), (fun q => absurd q (by omega)), (fun _ => ⟨f93_2, f93_3, zz_CM.cz (j0 := sh.toInt.toNat) (by omega) (by omega) (fun k hk => f93_4 k (by omega)) (fun i hi hq => f93_5 i hi (by omega))⟩)⟩)
                · have c16 := zz_nleT c16
                  refine lv_aload_n hx hb dX9_sheet_100 rfl (lv_at hl 1 rfl) ?_
                  refine zz_getr hx hb hts hi9 hown hK hP (g0.1) rfl 6 (by decide) (hts (.fieldLink RX9 25 "NoonLawModel" "cells" "[I") (List.mem_cons_of_mem _ bm_98)) rfl rfl dX9_sheet_101 ?_
                  refine lv_bipush (v := 24) hx hb dX9_sheet_104 (by decide) ?_
                  refine lv_iload_n hx hb dX9_sheet_106 rfl (lv_at hl 2 rfl) ?_
                  refine lv_imul hx hb dX9_sheet_107 ?_
                  refine lv_topi (fun n17 e17 => ?_)
                  have f17 : n17.toInt = 24 * (sh).toInt := zz_mulL 24 e17 (by decide) (by omega) (by omega)
                  refine lv_iload hx hb dX9_sheet_108 (lv_at hl 0 rfl) ?_
                  refine lv_iadd hx hb dX9_sheet_110 ?_
                  refine lv_topi (fun n18 e18 => ?_)
                  have f18 : n18.toInt = (n17).toInt + (ii).toInt := zz_addT e18 (by omega) (by omega)
                  refine lv_iconst (v := 0) hx hb dX9_sheet_111 (by decide) ?_
                  refine zz_iast hx hb hK hP hS (g0.2.2.2.2.2.2.1) (by omega) (by omega) dX9_sheet_112 (fun j19 σ19 H locs q19 r19 w19 hP1 hS1 => ?_)
                  replace hP := hP1
                  replace hS := hS1
                  clear hP1 hS1
                  replace hC := hC.u w19 (dS28_10 h0)
                  obtain ⟨n20, e20⟩ : ∃ y : Int32, y = ii + 1 := ⟨_, rfl⟩
                  have f20 : n20.toInt = (ii).toInt + (1) := by have h9 := zz_addT e20 (by omega) (by omega); omega
                  refine lv_iinc (v := n20) (lv' := [(4, .int n20), (0, .ref h0), (1, .int sh), (2, .int bi), (3, .int nn)]) hx hb dX9_sheet_113 hl (k := 0) rfl (by rw [e20]; rfl) (by decide) rfl (fun ls hl => ?_)
                  refine lv_goto (tgt := 93) hx hb dX9_sheet_116 (by decide) ?_
                  exact ih93 n20 σ19 _ _ _ (by omega) hC (by first | omega | exact hI | exact hT) (by intro j hj; rw [w19, zz_un (by omega)]; exact f93_1 j hj) (by rw [zz_HMo (a := h0 + 4) w19 (by omega)]; exact f93_2) (by rw [zz_HMo (a := h0 + 5) w19 (by omega)]; exact f93_3) (by intro k hk; exact if hq : 24 * sh.toInt.toNat + k = j19 then (by rw [hq, w19, zz_us]; exact k_0) else (by rw [w19, zz_un (by omega)]; exact f93_4 k (by omega))) (by intro i hi hq; rw [w19, zz_un (by omega)]; exact f93_5 i hi hq) hP hS (lv_sub hl [0, 1, 2, 3, 4] rfl)
            exact J93 _ 0 σ15 _ _ _ (Nat.lt_succ_self _) hC (by first | omega | exact hI | exact hT) (by intro j hj; exact if hq : j = j15 then (by rw [hq, w15, zz_us]; omega) else (by rw [w15, zz_un (by omega), w7, zz_un (by omega)]; exact hz5 j hj)) (by rw [zz_HMo (a := h0 + 4) w15 (by omega), zz_HMw w7 (by omega : (j7 : Int) = sh.toInt) (by omega)]) (by rw [zz_HMw w15 (by omega : (j15 : Int) = sh.toInt) (by omega), zz_HMo (a := h0 + 5) w7 (by omega), if_pos (by omega), k_0]) (by intro k hk; omega) (by intro i hi hq; rw [w15, zz_un (by omega), w7, zz_un (by omega)]) hP hS (lv_sub hl [0, 1, 2, 3, 4] rfl)
        · have c6 := zz_nleT c6
          refine lv_iload_n hx hb dX9_sheet_55 rfl (lv_at hl 3 rfl) ?_
          refine lv_bipush (v := 24) hx hb dX9_sheet_56 (by decide) ?_
          refine lv_icmp_le (tgt := 68) hx hb dX9_sheet_58 (by decide) (fun c21 => ?_) (fun c21 => ?_)
          · have c21 := zz_leT c21
            refine lv_aload_n hx hb dX9_sheet_68 rfl (lv_at hl 0 rfl) ?_
            refine zz_getr hx hb hts hi9 hown hK hP (g0.1) rfl 4 (by decide) (hts (.fieldLink RX9 19 "NoonLawModel" "bitsOf" "[I") (List.mem_cons_of_mem _ bm_96)) rfl rfl dX9_sheet_69 ?_
            refine lv_iload_n hx hb dX9_sheet_72 rfl (lv_at hl 1 rfl) ?_
            refine lv_iload_n hx hb dX9_sheet_73 rfl (lv_at hl 2 rfl) ?_
            refine zz_iast hx hb hK hP hS (g0.2.2.2.2.1) (by omega) (by omega) dX9_sheet_74 (fun j22 σ22 H locs q22 r22 w22 hP1 hS1 => ?_)
            replace hP := hP1
            replace hS := hS1
            clear hP1 hS1
            replace hC := hC.u w22 (dS28_8 h0)
            refine lv_aload_n hx hb dX9_sheet_75 rfl (lv_at hl 0 rfl) ?_
            refine zz_getr hx hb hts hi9 hown hK hP (g0.1) rfl 5 (by decide) (hts (.fieldLink RX9 22 "NoonLawModel" "sizeOf" "[I") (List.mem_cons_of_mem _ bm_97)) rfl rfl dX9_sheet_76 ?_
            refine lv_iload_n hx hb dX9_sheet_79 rfl (lv_at hl 1 rfl) ?_
            refine lv_iload_n hx hb dX9_sheet_80 rfl (lv_at hl 2 rfl) ?_
            refine lv_if_ne (tgt := 88) hx hb dX9_sheet_81 (by decide) (fun c23 => ?_) (fun c23 => ?_)
            · have c23 := zz_neT c23
              refine lv_iload_n hx hb dX9_sheet_88 rfl (lv_at hl 3 rfl) ?_
              refine zz_iast hx hb hK hP hS (g0.2.2.2.2.2.1) (by omega) (by omega) dX9_sheet_89 (fun j24 σ24 H locs q24 r24 w24 hP1 hS1 => ?_)
              replace hP := hP1
              replace hS := hS1
              clear hP1 hS1
              replace hC := hC.u w24 (dS28_9 h0)
              refine lv_iconst (v := 0) hx hb dX9_sheet_90 (by decide) ?_
              refine lv_istore (lv' := [(4, .int 0), (0, .ref h0), (1, .int sh), (2, .int bi), (3, .int nn)]) hx hb dX9_sheet_91 hl (by decide) rfl (fun ls hl => ?_)
              have J93 : ∀ (n : Nat) (ii : Int32) (σa : zz_S) (H : Heap) (locs : List Loc) (ls : Array Slot), ((24 - ii.toInt).toNat) < n → (zz_ch (fun a k => (a = h0 + 3 ∨ (h0 + 7 ≤ a ∧ a ≤ h0 + 11)) ∨ a = h0 + 4 ∨ a = h0 + 5 ∨ a = h0 + 6) σ σa) → (0 ≤ ii.toInt) → (∀ j : Nat, j < 4 → 0 ≤ (σa (h0 + 5) j).toInt ∧ (σa (h0 + 5) j).toInt ≤ 24) → (zz_HM σa (h0 + 4) = zz_wn (zz_HM σ (h0 + 4)) sh.toInt bi.toInt) → (zz_HM σa (h0 + 5) = zz_wn (zz_HM σ (h0 + 5)) sh.toInt (if bi.toInt = 0 then 0 else nn.toInt)) → (∀ k : Nat, (k : Int) < ii.toInt → (σa (h0 + 6) (24 * sh.toInt.toNat + k)).toInt = 0) → (∀ i : Nat, i < 96 → (i < 24 * sh.toInt.toNat ∨ 24 * sh.toInt.toNat + 24 ≤ i) → σa (h0 + 6) i = σ (h0 + 6) i) → zz_P E σa H → va_S (zz_A E) s.heap H locs → lv_has ls 5 [(4, .int ii), (0, .ref h0), (1, .int sh), (2, .int bi), (3, .int nn)] → W p l e (headSpec wzX9_sheet ({ frames := 2, cells := 0, slots := 0, locals := 42 })).room s m args below meth c H locs 0 0 (MQ below (va_Qi (fun r σ1 => zz_ch (fun a k => (a = h0 + 3 ∨ (h0 + 7 ≤ a ∧ a ≤ h0 + 11)) ∨ a = h0 + 4 ∨ a = h0 + 5 ∨ a = h0 + 6) σ σ1 ∧ (zz_IM σ1 h0 ∧ zz_sheet sh.toInt bi.toInt nn.toInt r.toInt ∧ (r.toInt < 0 → zz_HM σ1 (h0 + 4) = zz_HM σ (h0 + 4) ∧ zz_HM σ1 (h0 + 5) = zz_HM σ (h0 + 5) ∧ zz_CM σ1 (h0 + 6) = zz_CM σ (h0 + 6)) ∧ (0 ≤ r.toInt → zz_HM σ1 (h0 + 4) = zz_wn (zz_HM σ (h0 + 4)) sh.toInt bi.toInt ∧ zz_HM σ1 (h0 + 5) = zz_wn (zz_HM σ (h0 + 5)) sh.toInt (if bi.toInt = 0 then 0 else nn.toInt) ∧ zz_CM σ1 (h0 + 6) = zz_cz (zz_CM σ (h0 + 6)) sh.toInt))) (zz_B E) (zz_A E)) args s 0 0 (zz_A E)) (F0 m 93 ls []) := by
                intro n
                induction n with
                | zero => intro ii σa H locs ls hm; exact absurd hm (Nat.not_lt_zero _)
                | succ n ih93 =>
                  intro ii σa H locs ls hm hC f93_0 f93_1 f93_2 f93_3 f93_4 f93_5 hP hS hl
                  refine lv_iload hx hb dX9_sheet_93 (lv_at hl 0 rfl) ?_
                  refine lv_bipush (v := 24) hx hb dX9_sheet_95 (by decide) ?_
                  refine lv_icmp_ge (tgt := 119) hx hb dX9_sheet_97 (by decide) (fun c25 => ?_) (fun c25 => ?_)
                  · have c25 := zz_leT c25
                    refine lv_iconst (v := 1) hx hb dX9_sheet_119 (by decide) ?_
                    exact zz_iret hx hb hr hlocks hK hP hS dX9_sheet_120 (by exact ⟨hC, ⟨hJ.1.keep (fun k => hC _ _ (by first | (dsimp only; omega) | omega)), hJ.2.1.keep (fun k => hC _ _ (by first | (dsimp only; omega) | omega)), f93_1, (by rw [hC _ _ (by first | (dsimp only; omega) | omega)]; exact htr)⟩, (by unfold zz_sheet; omega), (fun q => absurd q (by omega)), (fun _ => ⟨f93_2, f93_3, zz_CM.cz (j0 := sh.toInt.toNat) (by omega) (by omega) (fun k hk => f93_4 k (by omega)) (fun i hi hq => f93_5 i hi (by omega))⟩)⟩)
                  · have c25 := zz_nleT c25
                    refine lv_aload_n hx hb dX9_sheet_100 rfl (lv_at hl 1 rfl) ?_
                    refine zz_getr hx hb hts hi9 hown hK hP (g0.1) rfl 6 (by decide) (hts (.fieldLink RX9 25 "NoonLawModel" "cells" "[I") (List.mem_cons_of_mem _ bm_98)) rfl rfl dX9_sheet_101 ?_
                    refine lv_bipush (v := 24) hx hb dX9_sheet_104 (by decide) ?_
                    refine lv_iload_n hx hb dX9_sheet_106 rfl (lv_at hl 2 rfl) ?_
                    refine lv_imul hx hb dX9_sheet_107 ?_
                    refine lv_topi (fun n26 e26 => ?_)
                    have f26 : n26.toInt = 24 * (sh).toInt := zz_mulL 24 e26 (by decide) (by omega) (by omega)
                    refine lv_iload hx hb dX9_sheet_108 (lv_at hl 0 rfl) ?_
                    refine lv_iadd hx hb dX9_sheet_110 ?_
                    refine lv_topi (fun n27 e27 => ?_)
                    have f27 : n27.toInt = (n26).toInt + (ii).toInt := zz_addT e27 (by omega) (by omega)
                    refine lv_iconst (v := 0) hx hb dX9_sheet_111 (by decide) ?_
                    refine zz_iast hx hb hK hP hS (g0.2.2.2.2.2.2.1) (by omega) (by omega) dX9_sheet_112 (fun j28 σ28 H locs q28 r28 w28 hP1 hS1 => ?_)
                    replace hP := hP1
                    replace hS := hS1
                    clear hP1 hS1
                    replace hC := hC.u w28 (dS28_10 h0)
                    obtain ⟨n29, e29⟩ : ∃ y : Int32, y = ii + 1 := ⟨_, rfl⟩
                    have f29 : n29.toInt = (ii).toInt + (1) := by have h9 := zz_addT e29 (by omega) (by omega); omega
                    refine lv_iinc (v := n29) (lv' := [(4, .int n29), (0, .ref h0), (1, .int sh), (2, .int bi), (3, .int nn)]) hx hb dX9_sheet_113 hl (k := 0) rfl (by rw [e29]; rfl) (by decide) rfl (fun ls hl => ?_)
                    refine lv_goto (tgt := 93) hx hb dX9_sheet_116 (by decide) ?_
                    exact ih93 n29 σ28 _ _ _ (by omega) hC (by first | omega | exact hI | exact hT) (by intro j hj; rw [w28, zz_un (by omega)]; exact f93_1 j hj) (by rw [zz_HMo (a := h0 + 4) w28 (by omega)]; exact f93_2) (by rw [zz_HMo (a := h0 + 5) w28 (by omega)]; exact f93_3) (by intro k hk; exact if hq : 24 * sh.toInt.toNat + k = j28 then (by rw [hq, w28, zz_us]; exact k_0) else (by rw [w28, zz_un (by omega)]; exact f93_4 k (by omega))) (by intro i hi hq; rw [w28, zz_un (by omega)]; exact f93_5 i hi hq) hP hS (lv_sub hl [0, 1, 2, 3, 4] rfl)
              exact J93 _ 0 σ24 _ _ _ (Nat.lt_succ_self _) hC (by first | omega | exact hI | exact hT) (by intro j hj; exact if hq : j = j24 then (by rw [hq, w24, zz_us]; omega) else (by rw [w24, zz_un (by omega), w22, zz_un (by omega)]; exact hz5 j hj)) (by rw [zz_HMo (a := h0 + 4) w24 (by omega), zz_HMw w22 (by omega : (j22 : Int) = sh.toInt) (by omega)]) (by rw [zz_HMw w24 (by omega : (j24 : Int) = sh.toInt) (by omega), zz_HMo (a := h0 + 5) w22 (by omega), if_neg (by omega)]) (by intro k hk; omega) (by intro i hi hq; rw [w24, zz_un (by omega), w22, zz_un (by omega)]) hP hS (lv_sub hl [0, 1, 2, 3, 4] rfl)
            · have c23 := zz_eqT c23
              refine lv_iconst (v := 0) hx hb dX9_sheet_84 (by decide) ?_
              refine lv_goto (tgt := 89) hx hb dX9_sheet_85 (by decide) ?_
              refine zz_iast hx hb hK hP hS (g0.2.2.2.2.2.1) (by omega) (by omega) dX9_sheet_89 (fun j30 σ30 H locs q30 r30 w30 hP1 hS1 => ?_)
              replace hP := hP1
              replace hS := hS1
              clear hP1 hS1
              replace hC := hC.u w30 (dS28_9 h0)
              refine lv_iconst (v := 0) hx hb dX9_sheet_90 (by decide) ?_
              refine lv_istore (lv' := [(4, .int 0), (0, .ref h0), (1, .int sh), (2, .int bi), (3, .int nn)]) hx hb dX9_sheet_91 hl (by decide) rfl (fun ls hl => ?_)
              have J93 : ∀ (n : Nat) (ii : Int32) (σa : zz_S) (H : Heap) (locs : List Loc) (ls : Array Slot), ((24 - ii.toInt).toNat) < n → (zz_ch (fun a k => (a = h0 + 3 ∨ (h0 + 7 ≤ a ∧ a ≤ h0 + 11)) ∨ a = h0 + 4 ∨ a = h0 + 5 ∨ a = h0 + 6) σ σa) → (0 ≤ ii.toInt) → (∀ j : Nat, j < 4 → 0 ≤ (σa (h0 + 5) j).toInt ∧ (σa (h0 + 5) j).toInt ≤ 24) → (zz_HM σa (h0 + 4) = zz_wn (zz_HM σ (h0 + 4)) sh.toInt bi.toInt) → (zz_HM σa (h0 + 5) = zz_wn (zz_HM σ (h0 + 5)) sh.toInt (if bi.toInt = 0 then 0 else nn.toInt)) → (∀ k : Nat, (k : Int) < ii.toInt → (σa (h0 + 6) (24 * sh.toInt.toNat + k)).toInt = 0) → (∀ i : Nat, i < 96 → (i < 24 * sh.toInt.toNat ∨ 24 * sh.toInt.toNat + 24 ≤ i) → σa (h0 + 6) i = σ (h0 + 6) i) → zz_P E σa H → va_S (zz_A E) s.heap H locs → lv_has ls 5 [(4, .int ii), (0, .ref h0), (1, .int sh), (2, .int bi), (3, .int nn)] → W p l e (headSpec wzX9_sheet ({ frames := 2, cells := 0, slots := 0, locals := 42 })).room s m args below meth c H locs 0 0 (MQ below (va_Qi (fun r σ1 => zz_ch (fun a k => (a = h0 + 3 ∨ (h0 + 7 ≤ a ∧ a ≤ h0 + 11)) ∨ a = h0 + 4 ∨ a = h0 + 5 ∨ a = h0 + 6) σ σ1 ∧ (zz_IM σ1 h0 ∧ zz_sheet sh.toInt bi.toInt nn.toInt r.toInt ∧ (r.toInt < 0 → zz_HM σ1 (h0 + 4) = zz_HM σ (h0 + 4) ∧ zz_HM σ1 (h0 + 5) = zz_HM σ (h0 + 5) ∧ zz_CM σ1 (h0 + 6) = zz_CM σ (h0 + 6)) ∧ (0 ≤ r.toInt → zz_HM σ1 (h0 + 4) = zz_wn (zz_HM σ (h0 + 4)) sh.toInt bi.toInt ∧ zz_HM σ1 (h0 + 5) = zz_wn (zz_HM σ (h0 + 5)) sh.toInt (if bi.toInt = 0 then 0 else nn.toInt) ∧ zz_CM σ1 (h0 + 6) = zz_cz (zz_CM σ (h0 + 6)) sh.toInt))) (zz_B E) (zz_A E)) args s 0 0 (zz_A E)) (F0 m 93 ls []) := by
                intro n
                induction n with
                | zero => intro ii σa H locs ls hm; exact absurd hm (Nat.not_lt_zero _)
                | succ n ih93 =>
                  intro ii σa H locs ls hm hC f93_0 f93_1 f93_2 f93_3 f93_4 f93_5 hP hS hl
                  refine lv_iload hx hb dX9_sheet_93 (lv_at hl 0 rfl) ?_
                  refine lv_bipush (v := 24) hx hb dX9_sheet_95 (by decide) ?_
                  refine lv_icmp_ge (tgt := 119) hx hb dX9_sheet_97 (by decide) (fun c31 => ?_) (fun c31 => ?_)
                  · have c31 := zz_leT c31
                    refine lv_iconst (v := 1) hx hb dX9_sheet_119 (by decide) ?_
                    exact zz_iret hx hb hr hlocks hK hP hS dX9_sheet_120 (by exact ⟨hC, ⟨hJ.1.keep (fun k => hC _ _ (by first | (dsimp only; omega) | omega)), hJ.2.1.keep (fun k => hC _ _ (by first | (dsimp only; omega) | omega)), f93_1, (by rw [hC _ _ (by first | (dsimp only; omega) | omega)]; exact htr)⟩, (by unfold zz_sheet; omega), (fun q => absurd q (by omega)), (fun _ => ⟨f93_2, f93_3, zz_CM.cz (j0 := sh.toInt.toNat) (by omega) (by omega) (fun k hk => f93_4 k (by omega)) (fun i hi hq => f93_5 i hi (by omega))⟩)⟩)
                  · have c31 := zz_nleT c31
                    refine lv_aload_n hx hb dX9_sheet_100 rfl (lv_at hl 1 rfl) ?_
                    refine zz_getr hx hb hts hi9 hown hK hP (g0.1) rfl 6 (by decide) (hts (.fieldLink RX9 25 "NoonLawModel" "cells" "[I") (List.mem_cons_of_mem _ bm_98)) rfl rfl dX9_sheet_101 ?_
                    refine lv_bipush (v := 24) hx hb dX9_sheet_104 (by decide) ?_
                    refine lv_iload_n hx hb dX9_sheet_106 rfl (lv_at hl 2 rfl) ?_
                    refine lv_imul hx hb dX9_sheet_107 ?_
                    refine lv_topi (fun n32 e32 => ?_)
                    have f32 : n32.toInt = 24 * (sh).toInt := zz_mulL 24 e32 (by decide) (by omega) (by omega)
                    refine lv_iload hx hb dX9_sheet_108 (lv_at hl 0 rfl) ?_
                    refine lv_iadd hx hb dX9_sheet_110 ?_
                    refine lv_topi (fun n33 e33 => ?_)
                    have f33 : n33.toInt = (n32).toInt + (ii).toInt := zz_addT e33 (by omega) (by omega)
                    refine lv_iconst (v := 0) hx hb dX9_sheet_111 (by decide) ?_
                    refine zz_iast hx hb hK hP hS (g0.2.2.2.2.2.2.1) (by omega) (by omega) dX9_sheet_112 (fun j34 σ34 H locs q34 r34 w34 hP1 hS1 => ?_)
                    replace hP := hP1
                    replace hS := hS1
                    clear hP1 hS1
                    replace hC := hC.u w34 (dS28_10 h0)
                    obtain ⟨n35, e35⟩ : ∃ y : Int32, y = ii + 1 := ⟨_, rfl⟩
                    have f35 : n35.toInt = (ii).toInt + (1) := by have h9 := zz_addT e35 (by omega) (by omega); omega
                    refine lv_iinc (v := n35) (lv' := [(4, .int n35), (0, .ref h0), (1, .int sh), (2, .int bi), (3, .int nn)]) hx hb dX9_sheet_113 hl (k := 0) rfl (by rw [e35]; rfl) (by decide) rfl (fun ls hl => ?_)
                    refine lv_goto (tgt := 93) hx hb dX9_sheet_116 (by decide) ?_
                    exact ih93 n35 σ34 _ _ _ (by omega) hC (by first | omega | exact hI | exact hT) (by intro j hj; rw [w34, zz_un (by omega)]; exact f93_1 j hj) (by rw [zz_HMo (a := h0 + 4) w34 (by omega)]; exact f93_2) (by rw [zz_HMo (a := h0 + 5) w34 (by omega)]; exact f93_3) (by intro k hk; exact if hq : 24 * sh.toInt.toNat + k = j34 then (by rw [hq, w34, zz_us]; exact k_0) else (by rw [w34, zz_un (by omega)]; exact f93_4 k (by omega))) (by intro i hi hq; rw [w34, zz_un (by omega)]; exact f93_5 i hi hq) hP hS (lv_sub hl [0, 1, 2, 3, 4] rfl)
              exact J93 _ 0 σ30 _ _ _ (Nat.lt_succ_self _) hC (by first | omega | exact hI | exact hT) (by intro j hj; exact if hq : j = j30 then (by rw [hq, w30, zz_us]; omega) else (by rw [w30, zz_un (by omega), w22, zz_un (by omega)]; exact hz5 j hj)) (by rw [zz_HMo (a := h0 + 4) w30 (by omega), zz_HMw w22 (by omega : (j22 : Int) = sh.toInt) (by omega)]) (by rw [zz_HMw w30 (by omega : (j30 : Int) = sh.toInt) (by omega), zz_HMo (a := h0 + 5) w22 (by omega), if_pos (by omega), k_0]) (by intro k hk; omega) (by intro i hi hq; rw [w30, zz_un (by omega), w22, zz_un (by omega)]) hP hS (lv_sub hl [0, 1, 2, 3, 4] rfl)
          · have c21 := zz_nleT c21
            refine lv_aload_n hx hb dX9_sheet_61 rfl (lv_at hl 0 rfl) ?_
            refine lv_ldc (v := (-1000000001)) hx hb hown (hts (.constant RX9 93 (-1000000001)) (List.mem_cons_of_mem _ bm_138)) dX9_sheet_62 ?_
            refine zz_callVi (As := [.int (-1000000001)]) (rest := []) ⟨hx, hb, hml, hown, hts⟩ hK hP hS (c_X9_error l E σ h0 (-1000000001) g0 (by omega)) (cwV 1 hts gX9_sheet_X9_error rfl rfl rfl (by decide +kernel) ⟨Nat.le_of_ble_eq_true rfl, Nat.le_of_ble_eq_true rfl⟩) (g0.1) rfl rfl hl.1 rfl (Nat.le_of_ble_eq_true rfl) dX9_sheet_64 ⟨Nat.zero_le _, Nat.zero_le _⟩ (fun r36 σ36 H locs q36 hP1 hS1 => ?_)
            replace hP := hP1
            replace hS := hS1
            clear hP1 hS1
            try dsimp only at q36
            obtain ⟨w36, f36⟩ := q36
            replace hC := hC.tr (w36.mono (dS28_7 h0))
            exact zz_iret hx hb hr hlocks hK hP hS dX9_sheet_67 (by exact ⟨hC, (hJ.soft (w36.mono (by intro a k h; omega))), (by unfold zz_sheet; omega), (fun _ => ⟨zz_HM.eq (fun j hj => w36 _ _ (by first | (dsimp only; omega) | omega)), zz_HM.eq (fun j hj => w36 _ _ (by first | (dsimp only; omega) | omega)), zz_CM.eq (fun k hk => w36 _ _ (by first | (dsimp only; omega) | omega))⟩), (fun q => absurd q (by omega))⟩)
      · have c5 := zz_nleT c5
        refine lv_iload_n hx hb dX9_sheet_40 rfl (lv_at hl 3 rfl) ?_
        refine lv_if_ge (tgt := 51) hx hb dX9_sheet_41 (by decide) (fun c37 => ?_) (fun c37 => ?_)
        · have c37 := zz_leT c37
          refine lv_iload_n hx hb dX9_sheet_51 rfl (lv_at hl 2 rfl) ?_
          refine lv_if_le (tgt := 68) hx hb dX9_sheet_52 (by decide) (fun c38 => ?_) (fun c38 => ?_)
          · have c38 := zz_leT c38
            refine lv_aload_n hx hb dX9_sheet_68 rfl (lv_at hl 0 rfl) ?_
            refine zz_getr hx hb hts hi9 hown hK hP (g0.1) rfl 4 (by decide) (hts (.fieldLink RX9 19 "NoonLawModel" "bitsOf" "[I") (List.mem_cons_of_mem _ bm_96)) rfl rfl dX9_sheet_69 ?_
            refine lv_iload_n hx hb dX9_sheet_72 rfl (lv_at hl 1 rfl) ?_
            refine lv_iload_n hx hb dX9_sheet_73 rfl (lv_at hl 2 rfl) ?_
            refine zz_iast hx hb hK hP hS (g0.2.2.2.2.1) (by omega) (by omega) dX9_sheet_74 (fun j39 σ39 H locs q39 r39 w39 hP1 hS1 => ?_)
            replace hP := hP1
            replace hS := hS1
            clear hP1 hS1
            replace hC := hC.u w39 (dS28_8 h0)
            refine lv_aload_n hx hb dX9_sheet_75 rfl (lv_at hl 0 rfl) ?_
            refine zz_getr hx hb hts hi9 hown hK hP (g0.1) rfl 5 (by decide) (hts (.fieldLink RX9 22 "NoonLawModel" "sizeOf" "[I") (List.mem_cons_of_mem _ bm_97)) rfl rfl dX9_sheet_76 ?_
            refine lv_iload_n hx hb dX9_sheet_79 rfl (lv_at hl 1 rfl) ?_
            refine lv_iload_n hx hb dX9_sheet_80 rfl (lv_at hl 2 rfl) ?_
            refine lv_if_ne (tgt := 88) hx hb dX9_sheet_81 (by decide) (fun c40 => ?_) (fun c40 => ?_)
            · have c40 := zz_neT c40
              refine lv_iload_n hx hb dX9_sheet_88 rfl (lv_at hl 3 rfl) ?_
              refine zz_iast hx hb hK hP hS (g0.2.2.2.2.2.1) (by omega) (by omega) dX9_sheet_89 (fun j41 σ41 H locs q41 r41 w41 hP1 hS1 => ?_)
              replace hP := hP1
              replace hS := hS1
              clear hP1 hS1
              replace hC := hC.u w41 (dS28_9 h0)
              refine lv_iconst (v := 0) hx hb dX9_sheet_90 (by decide) ?_
              refine lv_istore (lv' := [(4, .int 0), (0, .ref h0), (1, .int sh), (2, .int bi), (3, .int nn)]) hx hb dX9_sheet_91 hl (by decide) rfl (fun ls hl => ?_)
              have J93 : ∀ (n : Nat) (ii : Int32) (σa : zz_S) (H : Heap) (locs : List Loc) (ls : Array Slot), ((24 - ii.toInt).toNat) < n → (zz_ch (fun a k => (a = h0 + 3 ∨ (h0 + 7 ≤ a ∧ a ≤ h0 + 11)) ∨ a = h0 + 4 ∨ a = h0 + 5 ∨ a = h0 + 6) σ σa) → (0 ≤ ii.toInt) → (∀ j : Nat, j < 4 → 0 ≤ (σa (h0 + 5) j).toInt ∧ (σa (h0 + 5) j).toInt ≤ 24) → (zz_HM σa (h0 + 4) = zz_wn (zz_HM σ (h0 + 4)) sh.toInt bi.toInt) → (zz_HM σa (h0 + 5) = zz_wn (zz_HM σ (h0 + 5)) sh.toInt (if bi.toInt = 0 then 0 else nn.toInt)) → (∀ k : Nat, (k : Int) < ii.toInt → (σa (h0 + 6) (24 * sh.toInt.toNat + k)).toInt = 0) → (∀ i : Nat, i < 96 → (i < 24 * sh.toInt.toNat ∨ 24 * sh.toInt.toNat + 24 ≤ i) → σa (h0 + 6) i = σ (h0 + 6) i) → zz_P E σa H → va_S (zz_A E) s.heap H locs → lv_has ls 5 [(4, .int ii), (0, .ref h0), (1, .int sh), (2, .int bi), (3, .int nn)] → W p l e (headSpec wzX9_sheet ({ frames := 2, cells := 0, slots := 0, locals := 42 })).room s m args below meth c H locs 0 0 (MQ below (va_Qi (fun r σ1 => zz_ch (fun a k => (a = h0 + 3 ∨ (h0 + 7 ≤ a ∧ a ≤ h0 + 11)) ∨ a = h0 + 4 ∨ a = h0 + 5 ∨ a = h0 + 6) σ σ1 ∧ (zz_IM σ1 h0 ∧ zz_sheet sh.toInt bi.toInt nn.toInt r.toInt ∧ (r.toInt < 0 → zz_HM σ1 (h0 + 4) = zz_HM σ (h0 + 4) ∧ zz_HM σ1 (h0 + 5) = zz_HM σ (h0 + 5) ∧ zz_CM σ1 (h0 + 6) = zz_CM σ (h0 + 6)) ∧ (0 ≤ r.toInt → zz_HM σ1 (h0 + 4) = zz_wn (zz_HM σ (h0 + 4)) sh.toInt bi.toInt ∧ zz_HM σ1 (h0 + 5) = zz_wn (zz_HM σ (h0 + 5)) sh.toInt (if bi.toInt = 0 then 0 else nn.toInt) ∧ zz_CM σ1 (h0 + 6) = zz_cz (zz_CM σ (h0 + 6)) sh.toInt))) (zz_B E) (zz_A E)) args s 0 0 (zz_A E)) (F0 m 93 ls []) := by
                intro n
                induction n with
                | zero => intro ii σa H locs ls hm; exact absurd hm (Nat.not_lt_zero _)
                | succ n ih93 =>
                  intro ii σa H locs ls hm hC f93_0 f93_1 f93_2 f93_3 f93_4 f93_5 hP hS hl
                  refine lv_iload hx hb dX9_sheet_93 (lv_at hl 0 rfl) ?_
                  refine lv_bipush (v := 24) hx hb dX9_sheet_95 (by decide) ?_
                  refine lv_icmp_ge (tgt := 119) hx hb dX9_sheet_97 (by decide) (fun c42 => ?_) (fun c42 => ?_)
                  · have c42 := zz_leT c42
                    refine lv_iconst (v := 1) hx hb dX9_sheet_119 (by decide) ?_
                    exact zz_iret hx hb hr hlocks hK hP hS dX9_sheet_120 (by exact ⟨hC, ⟨hJ.1.keep (fun k => hC _ _ (by first | (dsimp only; omega) | omega)), hJ.2.1.keep (fun k => hC _ _ (by first | (dsimp only; omega) | omega)), f93_1, (by rw [hC _ _ (by first | (dsimp only; omega) | omega)]; exact htr)⟩, (by unfold zz_sheet; omega), (fun q => absurd q (by omega)), (fun _ => ⟨f93_2, f93_3, zz_CM.cz (j0 := sh.toInt.toNat) (by omega) (by omega) (fun k hk => f93_4 k (by omega)) (fun i hi hq => f93_5 i hi (by omega))⟩)⟩)
                  · have c42 := zz_nleT c42
                    refine lv_aload_n hx hb dX9_sheet_100 rfl (lv_at hl 1 rfl) ?_
                    refine zz_getr hx hb hts hi9 hown hK hP (g0.1) rfl 6 (by decide) (hts (.fieldLink RX9 25 "NoonLawModel" "cells" "[I") (List.mem_cons_of_mem _ bm_98)) rfl rfl dX9_sheet_101 ?_
                    refine lv_bipush (v := 24) hx hb dX9_sheet_104 (by decide) ?_
                    refine lv_iload_n hx hb dX9_sheet_106 rfl (lv_at hl 2 rfl) ?_
                    refine lv_imul hx hb dX9_sheet_107 ?_
                    refine lv_topi (fun n43 e43 => ?_)
                    have f43 : n43.toInt = 24 * (sh).toInt := zz_mulL 24 e43 (by decide) (by omega) (by omega)
                    refine lv_iload hx hb dX9_sheet_108 (lv_at hl 0 rfl) ?_
                    refine lv_iadd hx hb dX9_sheet_110 ?_
                    refine lv_topi (fun n44 e44 => ?_)
                    have f44 : n44.toInt = (n43).toInt + (ii).toInt := zz_addT e44 (by omega) (by omega)
                    refine lv_iconst (v := 0) hx hb dX9_sheet_111 (by decide) ?_
                    refine zz_iast hx hb hK hP hS (g0.2.2.2.2.2.2.1) (by omega) (by omega) dX9_sheet_112 (fun j45 σ45 H locs q45 r45 w45 hP1 hS1 => ?_)
                    replace hP := hP1
                    replace hS := hS1
                    clear hP1 hS1
                    replace hC := hC.u w45 (dS28_10 h0)
                    obtain ⟨n46, e46⟩ : ∃ y : Int32, y = ii + 1 := ⟨_, rfl⟩
                    have f46 : n46.toInt = (ii).toInt + (1) := by have h9 := zz_addT e46 (by omega) (by omega); omega
                    refine lv_iinc (v := n46) (lv' := [(4, .int n46), (0, .ref h0), (1, .int sh), (2, .int bi), (3, .int nn)]) hx hb dX9_sheet_113 hl (k := 0) rfl (by rw [e46]; rfl) (by decide) rfl (fun ls hl => ?_)
                    refine lv_goto (tgt := 93) hx hb dX9_sheet_116 (by decide) ?_
                    exact ih93 n46 σ45 _ _ _ (by omega) hC (by first | omega | exact hI | exact hT) (by intro j hj; rw [w45, zz_un (by omega)]; exact f93_1 j hj) (by rw [zz_HMo (a := h0 + 4) w45 (by omega)]; exact f93_2) (by rw [zz_HMo (a := h0 + 5) w45 (by omega)]; exact f93_3) (by intro k hk; exact if hq : 24 * sh.toInt.toNat + k = j45 then (by rw [hq, w45, zz_us]; exact k_0) else (by rw [w45, zz_un (by omega)]; exact f93_4 k (by omega))) (by intro i hi hq; rw [w45, zz_un (by omega)]; exact f93_5 i hi hq) hP hS (lv_sub hl [0, 1, 2, 3, 4] rfl)
              exact J93 _ 0 σ41 _ _ _ (Nat.lt_succ_self _) hC (by first | omega | exact hI | exact hT) (by intro j hj; exact if hq : j = j41 then (by rw [hq, w41, zz_us]; omega) else (by rw [w41, zz_un (by omega), w39, zz_un (by omega)]; exact hz5 j hj)) (by rw [zz_HMo (a := h0 + 4) w41 (by omega), zz_HMw w39 (by omega : (j39 : Int) = sh.toInt) (by omega)]) (by rw [zz_HMw w41 (by omega : (j41 : Int) = sh.toInt) (by omega), zz_HMo (a := h0 + 5) w39 (by omega), if_neg (by omega)]) (by intro k hk; omega) (by intro i hi hq; rw [w41, zz_un (by omega), w39, zz_un (by omega)]) hP hS (lv_sub hl [0, 1, 2, 3, 4] rfl)
            · have c40 := zz_eqT c40
              refine lv_iconst (v := 0) hx hb dX9_sheet_84 (by decide) ?_
              refine lv_goto (tgt := 89) hx hb dX9_sheet_85 (by decide) ?_
              refine zz_iast hx hb hK hP hS (g0.2.2.2.2.2.1) (by omega) (by omega) dX9_sheet_89 (fun j47 σ47 H locs q47 r47 w47 hP1 hS1 => ?_)
              replace hP := hP1
              replace hS := hS1
              clear hP1 hS1
              replace hC := hC.u w47 (dS28_9 h0)
              refine lv_iconst (v := 0) hx hb dX9_sheet_90 (by decide) ?_
              refine lv_istore (lv' := [(4, .int 0), (0, .ref h0), (1, .int sh), (2, .int bi), (3, .int nn)]) hx hb dX9_sheet_91 hl (by decide) rfl (fun ls hl => ?_)
              have J93 : ∀ (n : Nat) (ii : Int32) (σa : zz_S) (H : Heap) (locs : List Loc) (ls : Array Slot), ((24 - ii.toInt).toNat) < n → (zz_ch (fun a k => (a = h0 + 3 ∨ (h0 + 7 ≤ a ∧ a ≤ h0 + 11)) ∨ a = h0 + 4 ∨ a = h0 + 5 ∨ a = h0 + 6) σ σa) → (0 ≤ ii.toInt) → (∀ j : Nat, j < 4 → 0 ≤ (σa (h0 + 5) j).toInt ∧ (σa (h0 + 5) j).toInt ≤ 24) → (zz_HM σa (h0 + 4) = zz_wn (zz_HM σ (h0 + 4)) sh.toInt bi.toInt) → (zz_HM σa (h0 + 5) = zz_wn (zz_HM σ (h0 + 5)) sh.toInt (if bi.toInt = 0 then 0 else nn.toInt)) → (∀ k : Nat, (k : Int) < ii.toInt → (σa (h0 + 6) (24 * sh.toInt.toNat + k)).toInt = 0) → (∀ i : Nat, i < 96 → (i < 24 * sh.toInt.toNat ∨ 24 * sh.toInt.toNat + 24 ≤ i) → σa (h0 + 6) i = σ (h0 + 6) i) → zz_P E σa H → va_S (zz_A E) s.heap H locs → lv_has ls 5 [(4, .int ii), (0, .ref h0), (1, .int sh), (2, .int bi), (3, .int nn)] → W p l e (headSpec wzX9_sheet ({ frames := 2, cells := 0, slots := 0, locals := 42 })).room s m args below meth c H locs 0 0 (MQ below (va_Qi (fun r σ1 => zz_ch (fun a k => (a = h0 + 3 ∨ (h0 + 7 ≤ a ∧ a ≤ h0 + 11)) ∨ a = h0 + 4 ∨ a = h0 + 5 ∨ a = h0 + 6) σ σ1 ∧ (zz_IM σ1 h0 ∧ zz_sheet sh.toInt bi.toInt nn.toInt r.toInt ∧ (r.toInt < 0 → zz_HM σ1 (h0 + 4) = zz_HM σ (h0 + 4) ∧ zz_HM σ1 (h0 + 5) = zz_HM σ (h0 + 5) ∧ zz_CM σ1 (h0 + 6) = zz_CM σ (h0 + 6)) ∧ (0 ≤ r.toInt → zz_HM σ1 (h0 + 4) = zz_wn (zz_HM σ (h0 + 4)) sh.toInt bi.toInt ∧ zz_HM σ1 (h0 + 5) = zz_wn (zz_HM σ (h0 + 5)) sh.toInt (if bi.toInt = 0 then 0 else nn.toInt) ∧ zz_CM σ1 (h0 + 6) = zz_cz (zz_CM σ (h0 + 6)) sh.toInt))) (zz_B E) (zz_A E)) args s 0 0 (zz_A E)) (F0 m 93 ls []) := by
                intro n
                induction n with
                | zero => intro ii σa H locs ls hm; exact absurd hm (Nat.not_lt_zero _)
                | succ n ih93 =>
                  intro ii σa H locs ls hm hC f93_0 f93_1 f93_2 f93_3 f93_4 f93_5 hP hS hl
                  refine lv_iload hx hb dX9_sheet_93 (lv_at hl 0 rfl) ?_
                  refine lv_bipush (v := 24) hx hb dX9_sheet_95 (by decide) ?_
                  refine lv_icmp_ge (tgt := 119) hx hb dX9_sheet_97 (by decide) (fun c48 => ?_) (fun c48 => ?_)
                  · have c48 := zz_leT c48
                    refine lv_iconst (v := 1) hx hb dX9_sheet_119 (by decide) ?_
                    exact zz_iret hx hb hr hlocks hK hP hS dX9_sheet_120 (by exact ⟨hC, ⟨hJ.1.keep (fun k => hC _ _ (by first | (dsimp only; omega) | omega)), hJ.2.1.keep (fun k => hC _ _ (by first | (dsimp only; omega) | omega)), f93_1, (by rw [hC _ _ (by first | (dsimp only; omega) | omega)]; exact htr)⟩, (by unfold zz_sheet; omega), (fun q => absurd q (by omega)), (fun _ => ⟨f93_2, f93_3, zz_CM.cz (j0 := sh.toInt.toNat) (by omega) (by omega) (fun k hk => f93_4 k (by omega)) (fun i hi hq => f93_5 i hi (by omega))⟩)⟩)
                  · have c48 := zz_nleT c48
                    refine lv_aload_n hx hb dX9_sheet_100 rfl (lv_at hl 1 rfl) ?_
                    refine zz_getr hx hb hts hi9 hown hK hP (g0.1) rfl 6 (by decide) (hts (.fieldLink RX9 25 "NoonLawModel" "cells" "[I") (List.mem_cons_of_mem _ bm_98)) rfl rfl dX9_sheet_101 ?_
                    refine lv_bipush (v := 24) hx hb dX9_sheet_104 (by decide) ?_
                    refine lv_iload_n hx hb dX9_sheet_106 rfl (lv_at hl 2 rfl) ?_
                    refine lv_imul hx hb dX9_sheet_107 ?_
                    refine lv_topi (fun n49 e49 => ?_)
                    have f49 : n49.toInt = 24 * (sh).toInt := zz_mulL 24 e49 (by decide) (by omega) (by omega)
                    refine lv_iload hx hb dX9_sheet_108 (lv_at hl 0 rfl) ?_
                    refine lv_iadd hx hb dX9_sheet_110 ?_
                    refine lv_topi (fun n50 e50 => ?_)
                    have f50 : n50.toInt = (n49).toInt + (ii).toInt := zz_addT e50 (by omega) (by omega)
                    refine lv_iconst (v := 0) hx hb dX9_sheet_111 (by decide) ?_
                    refine zz_iast hx hb hK hP hS (g0.2.2.2.2.2.2.1) (by omega) (by omega) dX9_sheet_112 (fun j51 σ51 H locs q51 r51 w51 hP1 hS1 => ?_)
                    replace hP := hP1
                    replace hS := hS1
                    clear hP1 hS1
                    replace hC := hC.u w51 (dS28_10 h0)
                    obtain ⟨n52, e52⟩ : ∃ y : Int32, y = ii + 1 := ⟨_, rfl⟩
                    have f52 : n52.toInt = (ii).toInt + (1) := by have h9 := zz_addT e52 (by omega) (by omega); omega
                    refine lv_iinc (v := n52) (lv' := [(4, .int n52), (0, .ref h0), (1, .int sh), (2, .int bi), (3, .int nn)]) hx hb dX9_sheet_113 hl (k := 0) rfl (by rw [e52]; rfl) (by decide) rfl (fun ls hl => ?_)
                    refine lv_goto (tgt := 93) hx hb dX9_sheet_116 (by decide) ?_
                    exact ih93 n52 σ51 _ _ _ (by omega) hC (by first | omega | exact hI | exact hT) (by intro j hj; rw [w51, zz_un (by omega)]; exact f93_1 j hj) (by rw [zz_HMo (a := h0 + 4) w51 (by omega)]; exact f93_2) (by rw [zz_HMo (a := h0 + 5) w51 (by omega)]; exact f93_3) (by intro k hk; exact if hq : 24 * sh.toInt.toNat + k = j51 then (by rw [hq, w51, zz_us]; exact k_0) else (by rw [w51, zz_un (by omega)]; exact f93_4 k (by omega))) (by intro i hi hq; rw [w51, zz_un (by omega)]; exact f93_5 i hi hq) hP hS (lv_sub hl [0, 1, 2, 3, 4] rfl)
              exact J93 _ 0 σ47 _ _ _ (Nat.lt_succ_self _) hC (by first | omega | exact hI | exact hT) (by intro j hj; exact if hq : j = j47 then (by rw [hq, w47, zz_us]; omega) else (by rw [w47, zz_un (by omega), w39, zz_un (by omega)]; exact hz5 j hj)) (by rw [zz_HMo (a := h0 + 4) w47 (by omega), zz_HMw w39 (by omega : (j39 : Int) = sh.toInt) (by omega)]) (by rw [zz_HMw w47 (by omega : (j47 : Int) = sh.toInt) (by omega), zz_HMo (a := h0 + 5) w39 (by omega), if_pos (by omega), k_0]) (by intro k hk; omega) (by intro i hi hq; rw [w47, zz_un (by omega), w39, zz_un (by omega)]) hP hS (lv_sub hl [0, 1, 2, 3, 4] rfl)
          · have c38 := zz_nleT c38
            refine lv_iload_n hx hb dX9_sheet_55 rfl (lv_at hl 3 rfl) ?_
            refine lv_bipush (v := 24) hx hb dX9_sheet_56 (by decide) ?_
            refine lv_icmp_le (tgt := 68) hx hb dX9_sheet_58 (by decide) (fun c53 => ?_) (fun c53 => ?_)
            · have c53 := zz_leT c53
              refine lv_aload_n hx hb dX9_sheet_68 rfl (lv_at hl 0 rfl) ?_
              refine zz_getr hx hb hts hi9 hown hK hP (g0.1) rfl 4 (by decide) (hts (.fieldLink RX9 19 "NoonLawModel" "bitsOf" "[I") (List.mem_cons_of_mem _ bm_96)) rfl rfl dX9_sheet_69 ?_
              refine lv_iload_n hx hb dX9_sheet_72 rfl (lv_at hl 1 rfl) ?_
              refine lv_iload_n hx hb dX9_sheet_73 rfl (lv_at hl 2 rfl) ?_
              refine zz_iast hx hb hK hP hS (g0.2.2.2.2.1) (by omega) (by omega) dX9_sheet_74 (fun j54 σ54 H locs q54 r54 w54 hP1 hS1 => ?_)
              replace hP := hP1
              replace hS := hS1
              clear hP1 hS1
              replace hC := hC.u w54 (dS28_8 h0)
              refine lv_aload_n hx hb dX9_sheet_75 rfl (lv_at hl 0 rfl) ?_
              refine zz_getr hx hb hts hi9 hown hK hP (g0.1) rfl 5 (by decide) (hts (.fieldLink RX9 22 "NoonLawModel" "sizeOf" "[I") (List.mem_cons_of_mem _ bm_97)) rfl rfl dX9_sheet_76 ?_
              refine lv_iload_n hx hb dX9_sheet_79 rfl (lv_at hl 1 rfl) ?_
              refine lv_iload_n hx hb dX9_sheet_80 rfl (lv_at hl 2 rfl) ?_
              refine lv_if_ne (tgt := 88) hx hb dX9_sheet_81 (by decide) (fun c55 => ?_) (fun c55 => ?_)
              · have c55 := zz_neT c55
                refine lv_iload_n hx hb dX9_sheet_88 rfl (lv_at hl 3 rfl) ?_
                refine zz_iast hx hb hK hP hS (g0.2.2.2.2.2.1) (by omega) (by omega) dX9_sheet_89 (fun j56 σ56 H locs q56 r56 w56 hP1 hS1 => ?_)
                replace hP := hP1
                replace hS := hS1
                clear hP1 hS1
                replace hC := hC.u w56 (dS28_9 h0)
                refine lv_iconst (v := 0) hx hb dX9_sheet_90 (by decide) ?_
                refine lv_istore (lv' := [(4, .int 0), (0, .ref h0), (1, .int sh), (2, .int bi), (3, .int nn)]) hx hb dX9_sheet_91 hl (by decide) rfl (fun ls hl => ?_)
                have J93 : ∀ (n : Nat) (ii : Int32) (σa : zz_S) (H : Heap) (locs : List Loc) (ls : Array Slot), ((24 - ii.toInt).toNat) < n → (zz_ch (fun a k => (a = h0 + 3 ∨ (h0 + 7 ≤ a ∧ a ≤ h0 + 11)) ∨ a = h0 + 4 ∨ a = h0 + 5 ∨ a = h0 + 6) σ σa) → (0 ≤ ii.toInt) → (∀ j : Nat, j < 4 → 0 ≤ (σa (h0 + 5) j).toInt ∧ (σa (h0 + 5) j).toInt ≤ 24) → (zz_HM σa (h0 + 4) = zz_wn (zz_HM σ (h0 + 4)) sh.toInt bi.toInt) → (zz_HM σa (h0 + 5) = zz_wn (zz_HM σ (h0 + 5)) sh.toInt (if bi.toInt = 0 then 0 else nn.toInt)) → (∀ k : Nat, (k : Int) < ii.toInt → (σa (h0 + 6) (24 * sh.toInt.toNat + k)).toInt = 0) → (∀ i : Nat, i < 96 → (i < 24 * sh.toInt.toNat ∨ 24 * sh.toInt.toNat + 24 ≤ i) → σa (h0 + 6) i = σ (h0 + 6) i) → zz_P E σa H → va_S (zz_A E) s.heap H locs → lv_has ls 5 [(4, .int ii), (0, .ref h0), (1, .int sh), (2, .int bi), (3, .int nn)] → W p l e (headSpec wzX9_sheet ({ frames := 2, cells := 0, slots := 0, locals := 42 })).room s m args below meth c H locs 0 0 (MQ below (va_Qi (fun r σ1 => zz_ch (fun a k => (a = h0 + 3 ∨ (h0 + 7 ≤ a ∧ a ≤ h0 + 11)) ∨ a = h0 + 4 ∨ a = h0 + 5 ∨ a = h0 + 6) σ σ1 ∧ (zz_IM σ1 h0 ∧ zz_sheet sh.toInt bi.toInt nn.toInt r.toInt ∧ (r.toInt < 0 → zz_HM σ1 (h0 + 4) = zz_HM σ (h0 + 4) ∧ zz_HM σ1 (h0 + 5) = zz_HM σ (h0 + 5) ∧ zz_CM σ1 (h0 + 6) = zz_CM σ (h0 + 6)) ∧ (0 ≤ r.toInt → zz_HM σ1 (h0 + 4) = zz_wn (zz_HM σ (h0 + 4)) sh.toInt bi.toInt ∧ zz_HM σ1 (h0 + 5) = zz_wn (zz_HM σ (h0 + 5)) sh.toInt (if bi.toInt = 0 then 0 else nn.toInt) ∧ zz_CM σ1 (h0 + 6) = zz_cz (zz_CM σ (h0 + 6)) sh.toInt))) (zz_B E) (zz_A E)) args s 0 0 (zz_A E)) (F0 m 93 ls []) := by
                  intro n
                  induction n with
                  | zero => intro ii σa H locs ls hm; exact absurd hm (Nat.not_lt_zero _)
                  | succ n ih93 =>
                    intro ii σa H locs ls hm hC f93_0 f93_1 f93_2 f93_3 f93_4 f93_5 hP hS hl
                    refine lv_iload hx hb dX9_sheet_93 (lv_at hl 0 rfl) ?_
                    refine lv_bipush (v := 24) hx hb dX9_sheet_95 (by decide) ?_
                    refine lv_icmp_ge (tgt := 119) hx hb dX9_sheet_97 (by decide) (fun c57 => ?_) (fun c57 => ?_)
                    · have c57 := zz_leT c57
                      refine lv_iconst (v := 1) hx hb dX9_sheet_119 (by decide) ?_
                      exact zz_iret hx hb hr hlocks hK hP hS dX9_sheet_120 (by exact ⟨hC, ⟨hJ.1.keep (fun k => hC _ _ (by first | (dsimp only; omega) | omega)), hJ.2.1.keep (fun k => hC _ _ (by first | (dsimp only; omega) | omega)), f93_1, (by rw [hC _ _ (by first | (dsimp only; omega) | omega)]; exact htr)⟩, (by unfold zz_sheet; omega), (fun q => absurd q (by omega)), (fun _ => ⟨f93_2, f93_3, zz_CM.cz (j0 := sh.toInt.toNat) (by omega) (by omega) (fun k hk => f93_4 k (by omega)) (fun i hi hq => f93_5 i hi (by omega))⟩)⟩)
                    · have c57 := zz_nleT c57
                      refine lv_aload_n hx hb dX9_sheet_100 rfl (lv_at hl 1 rfl) ?_
                      refine zz_getr hx hb hts hi9 hown hK hP (g0.1) rfl 6 (by decide) (hts (.fieldLink RX9 25 "NoonLawModel" "cells" "[I") (List.mem_cons_of_mem _ bm_98)) rfl rfl dX9_sheet_101 ?_
                      refine lv_bipush (v := 24) hx hb dX9_sheet_104 (by decide) ?_
                      refine lv_iload_n hx hb dX9_sheet_106 rfl (lv_at hl 2 rfl) ?_
                      refine lv_imul hx hb dX9_sheet_107 ?_
                      refine lv_topi (fun n58 e58 => ?_)
                      have f58 : n58.toInt = 24 * (sh).toInt := zz_mulL 24 e58 (by decide) (by omega) (by omega)
                      refine lv_iload hx hb dX9_sheet_108 (lv_at hl 0 rfl) ?_
                      refine lv_iadd hx hb dX9_sheet_110 ?_
                      refine lv_topi (fun n59 e59 => ?_)
                      have f59 : n59.toInt = (n58).toInt + (ii).toInt := zz_addT e59 (by omega) (by omega)
                      refine lv_iconst (v := 0) hx hb dX9_sheet_111 (by decide) ?_
                      refine zz_iast hx hb hK hP hS (g0.2.2.2.2.2.2.1) (by omega) (by omega) dX9_sheet_112 (fun j60 σ60 H locs q60 r60 w60 hP1 hS1 => ?_)
                      replace hP := hP1
                      replace hS := hS1
                      clear hP1 hS1
                      replace hC := hC.u w60 (dS28_10 h0)
                      obtain ⟨n61, e61⟩ : ∃ y : Int32, y = ii + 1 := ⟨_, rfl⟩
                      have f61 : n61.toInt = (ii).toInt + (1) := by have h9 := zz_addT e61 (by omega) (by omega); omega
                      refine lv_iinc (v := n61) (lv' := [(4, .int n61), (0, .ref h0), (1, .int sh), (2, .int bi), (3, .int nn)]) hx hb dX9_sheet_113 hl (k := 0) rfl (by rw [e61]; rfl) (by decide) rfl (fun ls hl => ?_)
                      refine lv_goto (tgt := 93) hx hb dX9_sheet_116 (by decide) ?_
                      exact ih93 n61 σ60 _ _ _ (by omega) hC (by first | omega | exact hI | exact hT) (by intro j hj; rw [w60, zz_un (by omega)]; exact f93_1 j hj) (by rw [zz_HMo (a := h0 + 4) w60 (by omega)]; exact f93_2) (by rw [zz_HMo (a := h0 + 5) w60 (by omega)]; exact f93_3) (by intro k hk; exact if hq : 24 * sh.toInt.toNat + k = j60 then (by rw [hq, w60, zz_us]; exact k_0) else (by rw [w60, zz_un (by omega)]; exact f93_4 k (by omega))) (by intro i hi hq; rw [w60, zz_un (by omega)]; exact f93_5 i hi hq) hP hS (lv_sub hl [0, 1, 2, 3, 4] rfl)
                exact J93 _ 0 σ56 _ _ _ (Nat.lt_succ_self _) hC (by first | omega | exact hI | exact hT) (by intro j hj; exact if hq : j = j56 then (by rw [hq, w56, zz_us]; omega) else (by rw [w56, zz_un (by omega), w54, zz_un (by omega)]; exact hz5 j hj)) (by rw [zz_HMo (a := h0 + 4) w56 (by omega), zz_HMw w54 (by omega : (j54 : Int) = sh.toInt) (by omega)]) (by rw [zz_HMw w56 (by omega : (j56 : Int) = sh.toInt) (by omega), zz_HMo (a := h0 + 5) w54 (by omega), if_neg (by omega)]) (by intro k hk; omega) (by intro i hi hq; rw [w56, zz_un (by omega), w54, zz_un (by omega)]) hP hS (lv_sub hl [0, 1, 2, 3, 4] rfl)
              · have c55 := zz_eqT c55
                refine lv_iconst (v := 0) hx hb dX9_sheet_84 (by decide) ?_
                refine lv_goto (tgt := 89) hx hb dX9_sheet_85 (by decide) ?_
                refine zz_iast hx hb hK hP hS (g0.2.2.2.2.2.1) (by omega) (by omega) dX9_sheet_89 (fun j62 σ62 H locs q62 r62 w62 hP1 hS1 => ?_)
                replace hP := hP1
                replace hS := hS1
                clear hP1 hS1
                replace hC := hC.u w62 (dS28_9 h0)
                refine lv_iconst (v := 0) hx hb dX9_sheet_90 (by decide) ?_
                refine lv_istore (lv' := [(4, .int 0), (0, .ref h0), (1, .int sh), (2, .int bi), (3, .int nn)]) hx hb dX9_sheet_91 hl (by decide) rfl (fun ls hl => ?_)
                have J93 : ∀ (n : Nat) (ii : Int32) (σa : zz_S) (H : Heap) (locs : List Loc) (ls : Array Slot), ((24 - ii.toInt).toNat) < n → (zz_ch (fun a k => (a = h0 + 3 ∨ (h0 + 7 ≤ a ∧ a ≤ h0 + 11)) ∨ a = h0 + 4 ∨ a = h0 + 5 ∨ a = h0 + 6) σ σa) → (0 ≤ ii.toInt) → (∀ j : Nat, j < 4 → 0 ≤ (σa (h0 + 5) j).toInt ∧ (σa (h0 + 5) j).toInt ≤ 24) → (zz_HM σa (h0 + 4) = zz_wn (zz_HM σ (h0 + 4)) sh.toInt bi.toInt) → (zz_HM σa (h0 + 5) = zz_wn (zz_HM σ (h0 + 5)) sh.toInt (if bi.toInt = 0 then 0 else nn.toInt)) → (∀ k : Nat, (k : Int) < ii.toInt → (σa (h0 + 6) (24 * sh.toInt.toNat + k)).toInt = 0) → (∀ i : Nat, i < 96 → (i < 24 * sh.toInt.toNat ∨ 24 * sh.toInt.toNat + 24 ≤ i) → σa (h0 + 6) i = σ (h0 + 6) i) → zz_P E σa H → va_S (zz_A E) s.heap H locs → lv_has ls 5 [(4, .int ii), (0, .ref h0), (1, .int sh), (2, .int bi), (3, .int nn)] → W p l e (headSpec wzX9_sheet ({ frames := 2, cells := 0, slots := 0, locals := 42 })).room s m args below meth c H locs 0 0 (MQ below (va_Qi (fun r σ1 => zz_ch (fun a k => (a = h0 + 3 ∨ (h0 + 7 ≤ a ∧ a ≤ h0 + 11)) ∨ a = h0 + 4 ∨ a = h0 + 5 ∨ a = h0 + 6) σ σ1 ∧ (zz_IM σ1 h0 ∧ zz_sheet sh.toInt bi.toInt nn.toInt r.toInt ∧ (r.toInt < 0 → zz_HM σ1 (h0 + 4) = zz_HM σ (h0 + 4) ∧ zz_HM σ1 (h0 + 5) = zz_HM σ (h0 + 5) ∧ zz_CM σ1 (h0 + 6) = zz_CM σ (h0 + 6)) ∧ (0 ≤ r.toInt → zz_HM σ1 (h0 + 4) = zz_wn (zz_HM σ (h0 + 4)) sh.toInt bi.toInt ∧ zz_HM σ1 (h0 + 5) = zz_wn (zz_HM σ (h0 + 5)) sh.toInt (if bi.toInt = 0 then 0 else nn.toInt) ∧ zz_CM σ1 (h0 + 6) = zz_cz (zz_CM σ (h0 + 6)) sh.toInt))) (zz_B E) (zz_A E)) args s 0 0 (zz_A E)) (F0 m 93 ls []) := by
                  intro n
                  induction n with
                  | zero => intro ii σa H locs ls hm; exact absurd hm (Nat.not_lt_zero _)
                  | succ n ih93 =>
                    intro ii σa H locs ls hm hC f93_0 f93_1 f93_2 f93_3 f93_4 f93_5 hP hS hl
                    refine lv_iload hx hb dX9_sheet_93 (lv_at hl 0 rfl) ?_
                    refine lv_bipush (v := 24) hx hb dX9_sheet_95 (by decide) ?_
                    refine lv_icmp_ge (tgt := 119) hx hb dX9_sheet_97 (by decide) (fun c63 => ?_) (fun c63 => ?_)
                    · have c63 := zz_leT c63
                      refine lv_iconst (v := 1) hx hb dX9_sheet_119 (by decide) ?_
                      exact zz_iret hx hb hr hlocks hK hP hS dX9_sheet_120 (by exact ⟨hC, ⟨hJ.1.keep (fun k => hC _ _ (by first | (dsimp only; omega) | omega)), hJ.2.1.keep (fun k => hC _ _ (by first | (dsimp only; omega) | omega)), f93_1, (by rw [hC _ _ (by first | (dsimp only; omega) | omega)]; exact htr)⟩, (by unfold zz_sheet; omega), (fun q => absurd q (by omega)), (fun _ => ⟨f93_2, f93_3, zz_CM.cz (j0 := sh.toInt.toNat) (by omega) (by omega) (fun k hk => f93_4 k (by omega)) (fun i hi hq => f93_5 i hi (by omega))⟩)⟩)
                    · have c63 := zz_nleT c63
                      refine lv_aload_n hx hb dX9_sheet_100 rfl (lv_at hl 1 rfl) ?_
                      refine zz_getr hx hb hts hi9 hown hK hP (g0.1) rfl 6 (by decide) (hts (.fieldLink RX9 25 "NoonLawModel" "cells" "[I") (List.mem_cons_of_mem _ bm_98)) rfl rfl dX9_sheet_101 ?_
                      refine lv_bipush (v := 24) hx hb dX9_sheet_104 (by decide) ?_
                      refine lv_iload_n hx hb dX9_sheet_106 rfl (lv_at hl 2 rfl) ?_
                      refine lv_imul hx hb dX9_sheet_107 ?_
                      refine lv_topi (fun n64 e64 => ?_)
                      have f64 : n64.toInt = 24 * (sh).toInt := zz_mulL 24 e64 (by decide) (by omega) (by omega)
                      refine lv_iload hx hb dX9_sheet_108 (lv_at hl 0 rfl) ?_
                      refine lv_iadd hx hb dX9_sheet_110 ?_
                      refine lv_topi (fun n65 e65 => ?_)
                      have f65 : n65.toInt = (n64).toInt + (ii).toInt := zz_addT e65 (by omega) (by omega)
                      refine lv_iconst (v := 0) hx hb dX9_sheet_111 (by decide) ?_
                      refine zz_iast hx hb hK hP hS (g0.2.2.2.2.2.2.1) (by omega) (by omega) dX9_sheet_112 (fun j66 σ66 H locs q66 r66 w66 hP1 hS1 => ?_)
                      replace hP := hP1
                      replace hS := hS1
                      clear hP1 hS1
                      replace hC := hC.u w66 (dS28_10 h0)
                      obtain ⟨n67, e67⟩ : ∃ y : Int32, y = ii + 1 := ⟨_, rfl⟩
                      have f67 : n67.toInt = (ii).toInt + (1) := by have h9 := zz_addT e67 (by omega) (by omega); omega
                      refine lv_iinc (v := n67) (lv' := [(4, .int n67), (0, .ref h0), (1, .int sh), (2, .int bi), (3, .int nn)]) hx hb dX9_sheet_113 hl (k := 0) rfl (by rw [e67]; rfl) (by decide) rfl (fun ls hl => ?_)
                      refine lv_goto (tgt := 93) hx hb dX9_sheet_116 (by decide) ?_
                      exact ih93 n67 σ66 _ _ _ (by omega) hC (by first | omega | exact hI | exact hT) (by intro j hj; rw [w66, zz_un (by omega)]; exact f93_1 j hj) (by rw [zz_HMo (a := h0 + 4) w66 (by omega)]; exact f93_2) (by rw [zz_HMo (a := h0 + 5) w66 (by omega)]; exact f93_3) (by intro k hk; exact if hq : 24 * sh.toInt.toNat + k = j66 then (by rw [hq, w66, zz_us]; exact k_0) else (by rw [w66, zz_un (by omega)]; exact f93_4 k (by omega))) (by intro i hi hq; rw [w66, zz_un (by omega)]; exact f93_5 i hi hq) hP hS (lv_sub hl [0, 1, 2, 3, 4] rfl)
                exact J93 _ 0 σ62 _ _ _ (Nat.lt_succ_self _) hC (by first | omega | exact hI | exact hT) (by intro j hj; exact if hq : j = j62 then (by rw [hq, w62, zz_us]; omega) else (by rw [w62, zz_un (by omega), w54, zz_un (by omega)]; exact hz5 j hj)) (by rw [zz_HMo (a := h0 + 4) w62 (by omega), zz_HMw w54 (by omega : (j54 : Int) = sh.toInt) (by omega)]) (by rw [zz_HMw w62 (by omega : (j62 : Int) = sh.toInt) (by omega), zz_HMo (a := h0 + 5) w54 (by omega), if_pos (by omega), k_0]) (by intro k hk; omega) (by intro i hi hq; rw [w62, zz_un (by omega), w54, zz_un (by omega)]) hP hS (lv_sub hl [0, 1, 2, 3, 4] rfl)
            · have c53 := zz_nleT c53
              refine lv_aload_n hx hb dX9_sheet_61 rfl (lv_at hl 0 rfl) ?_
              refine lv_ldc (v := (-1000000001)) hx hb hown (hts (.constant RX9 93 (-1000000001)) (List.mem_cons_of_mem _ bm_138)) dX9_sheet_62 ?_
              refine zz_callVi (As := [.int (-1000000001)]) (rest := []) ⟨hx, hb, hml, hown, hts⟩ hK hP hS (c_X9_error l E σ h0 (-1000000001) g0 (by omega)) (cwV 1 hts gX9_sheet_X9_error rfl rfl rfl (by decide +kernel) ⟨Nat.le_of_ble_eq_true rfl, Nat.le_of_ble_eq_true rfl⟩) (g0.1) rfl rfl hl.1 rfl (Nat.le_of_ble_eq_true rfl) dX9_sheet_64 ⟨Nat.zero_le _, Nat.zero_le _⟩ (fun r68 σ68 H locs q68 hP1 hS1 => ?_)
              replace hP := hP1
              replace hS := hS1
              clear hP1 hS1
              try dsimp only at q68
              obtain ⟨w68, f68⟩ := q68
              replace hC := hC.tr (w68.mono (dS28_7 h0))
              exact zz_iret hx hb hr hlocks hK hP hS dX9_sheet_67 (by exact ⟨hC, (hJ.soft (w68.mono (by intro a k h; omega))), (by unfold zz_sheet; omega), (fun _ => ⟨zz_HM.eq (fun j hj => w68 _ _ (by first | (dsimp only; omega) | omega)), zz_HM.eq (fun j hj => w68 _ _ (by first | (dsimp only; omega) | omega)), zz_CM.eq (fun k hk => w68 _ _ (by first | (dsimp only; omega) | omega))⟩), (fun q => absurd q (by omega))⟩)
        · have c37 := zz_nleT c37
          refine lv_aload_n hx hb dX9_sheet_44 rfl (lv_at hl 0 rfl) ?_
          refine lv_ldc (v := (-1000000003)) hx hb hown (hts (.constant RX9 178 (-1000000003)) (List.mem_cons_of_mem _ bm_592)) dX9_sheet_45 ?_
          refine zz_callVi (As := [.int (-1000000003)]) (rest := []) ⟨hx, hb, hml, hown, hts⟩ hK hP hS (c_X9_error l E σ h0 (-1000000003) g0 (by omega)) (cwV 1 hts gX9_sheet_X9_error rfl rfl rfl (by decide +kernel) ⟨Nat.le_of_ble_eq_true rfl, Nat.le_of_ble_eq_true rfl⟩) (g0.1) rfl rfl hl.1 rfl (Nat.le_of_ble_eq_true rfl) dX9_sheet_47 ⟨Nat.zero_le _, Nat.zero_le _⟩ (fun r69 σ69 H locs q69 hP1 hS1 => ?_)
          replace hP := hP1
          replace hS := hS1
          clear hP1 hS1
          try dsimp only at q69
          obtain ⟨w69, f69⟩ := q69
          replace hC := hC.tr (w69.mono (dS28_7 h0))
          exact zz_iret hx hb hr hlocks hK hP hS dX9_sheet_50 (by exact ⟨hC, (hJ.soft (w69.mono (by intro a k h; omega))), (by unfold zz_sheet; omega), (fun _ => ⟨zz_HM.eq (fun j hj => w69 _ _ (by first | (dsimp only; omega) | omega)), zz_HM.eq (fun j hj => w69 _ _ (by first | (dsimp only; omega) | omega)), zz_CM.eq (fun k hk => w69 _ _ (by first | (dsimp only; omega) | omega))⟩), (fun q => absurd q (by omega))⟩)
    · have c4 := zz_neT c4
      refine lv_iload_n hx hb dX9_sheet_11 rfl (lv_at hl 2 rfl) ?_
      refine lv_bipush (v := 8) hx hb dX9_sheet_12 (by decide) ?_
      refine lv_icmp_eq (tgt := 36) hx hb dX9_sheet_14 (by decide) (fun c70 => ?_) (fun c70 => ?_)
      · have c70 := zz_eqT c70
        refine lv_iload_n hx hb dX9_sheet_36 rfl (lv_at hl 2 rfl) ?_
        refine lv_if_le (tgt := 51) hx hb dX9_sheet_37 (by decide) (fun c71 => ?_) (fun c71 => ?_)
        · have c71 := zz_leT c71
          refine lv_iload_n hx hb dX9_sheet_51 rfl (lv_at hl 2 rfl) ?_
          refine lv_if_le (tgt := 68) hx hb dX9_sheet_52 (by decide) (fun c72 => ?_) (fun c72 => ?_)
          · have c72 := zz_leT c72
            refine lv_aload_n hx hb dX9_sheet_68 rfl (lv_at hl 0 rfl) ?_
            refine zz_getr hx hb hts hi9 hown hK hP (g0.1) rfl 4 (by decide) (hts (.fieldLink RX9 19 "NoonLawModel" "bitsOf" "[I") (List.mem_cons_of_mem _ bm_96)) rfl rfl dX9_sheet_69 ?_
            refine lv_iload_n hx hb dX9_sheet_72 rfl (lv_at hl 1 rfl) ?_
            refine lv_iload_n hx hb dX9_sheet_73 rfl (lv_at hl 2 rfl) ?_
            refine zz_iast hx hb hK hP hS (g0.2.2.2.2.1) (by omega) (by omega) dX9_sheet_74 (fun j73 σ73 H locs q73 r73 w73 hP1 hS1 => ?_)
            replace hP := hP1
            replace hS := hS1
            clear hP1 hS1
            replace hC := hC.u w73 (dS28_8 h0)
            refine lv_aload_n hx hb dX9_sheet_75 rfl (lv_at hl 0 rfl) ?_
            refine zz_getr hx hb hts hi9 hown hK hP (g0.1) rfl 5 (by decide) (hts (.fieldLink RX9 22 "NoonLawModel" "sizeOf" "[I") (List.mem_cons_of_mem _ bm_97)) rfl rfl dX9_sheet_76 ?_
            refine lv_iload_n hx hb dX9_sheet_79 rfl (lv_at hl 1 rfl) ?_
            refine lv_iload_n hx hb dX9_sheet_80 rfl (lv_at hl 2 rfl) ?_
            refine lv_if_ne (tgt := 88) hx hb dX9_sheet_81 (by decide) (fun c74 => ?_) (fun c74 => ?_)
            · have c74 := zz_neT c74
              refine lv_iload_n hx hb dX9_sheet_88 rfl (lv_at hl 3 rfl) ?_
              refine zz_iast hx hb hK hP hS (g0.2.2.2.2.2.1) (by omega) (by omega) dX9_sheet_89 (fun j75 σ75 H locs q75 r75 w75 hP1 hS1 => ?_)
              replace hP := hP1
              replace hS := hS1
              clear hP1 hS1
              replace hC := hC.u w75 (dS28_9 h0)
              refine lv_iconst (v := 0) hx hb dX9_sheet_90 (by decide) ?_
              refine lv_istore (lv' := [(4, .int 0), (0, .ref h0), (1, .int sh), (2, .int bi), (3, .int nn)]) hx hb dX9_sheet_91 hl (by decide) rfl (fun ls hl => ?_)
              have J93 : ∀ (n : Nat) (ii : Int32) (σa : zz_S) (H : Heap) (locs : List Loc) (ls : Array Slot), ((24 - ii.toInt).toNat) < n → (zz_ch (fun a k => (a = h0 + 3 ∨ (h0 + 7 ≤ a ∧ a ≤ h0 + 11)) ∨ a = h0 + 4 ∨ a = h0 + 5 ∨ a = h0 + 6) σ σa) → (0 ≤ ii.toInt) → (∀ j : Nat, j < 4 → 0 ≤ (σa (h0 + 5) j).toInt ∧ (σa (h0 + 5) j).toInt ≤ 24) → (zz_HM σa (h0 + 4) = zz_wn (zz_HM σ (h0 + 4)) sh.toInt bi.toInt) → (zz_HM σa (h0 + 5) = zz_wn (zz_HM σ (h0 + 5)) sh.toInt (if bi.toInt = 0 then 0 else nn.toInt)) → (∀ k : Nat, (k : Int) < ii.toInt → (σa (h0 + 6) (24 * sh.toInt.toNat + k)).toInt = 0) → (∀ i : Nat, i < 96 → (i < 24 * sh.toInt.toNat ∨ 24 * sh.toInt.toNat + 24 ≤ i) → σa (h0 + 6) i = σ (h0 + 6) i) → zz_P E σa H → va_S (zz_A E) s.heap H locs → lv_has ls 5 [(4, .int ii), (0, .ref h0), (1, .int sh), (2, .int bi), (3, .int nn)] → W p l e (headSpec wzX9_sheet ({ frames := 2, cells := 0, slots := 0, locals := 42 })).room s m args below meth c H locs 0 0 (MQ below (va_Qi (fun r σ1 => zz_ch (fun a k => (a = h0 + 3 ∨ (h0 + 7 ≤ a ∧ a ≤ h0 + 11)) ∨ a = h0 + 4 ∨ a = h0 + 5 ∨ a = h0 + 6) σ σ1 ∧ (zz_IM σ1 h0 ∧ zz_sheet sh.toInt bi.toInt nn.toInt r.toInt ∧ (r.toInt < 0 → zz_HM σ1 (h0 + 4) = zz_HM σ (h0 + 4) ∧ zz_HM σ1 (h0 + 5) = zz_HM σ (h0 + 5) ∧ zz_CM σ1 (h0 + 6) = zz_CM σ (h0 + 6)) ∧ (0 ≤ r.toInt → zz_HM σ1 (h0 + 4) = zz_wn (zz_HM σ (h0 + 4)) sh.toInt bi.toInt ∧ zz_HM σ1 (h0 + 5) = zz_wn (zz_HM σ (h0 + 5)) sh.toInt (if bi.toInt = 0 then 0 else nn.toInt) ∧ zz_CM σ1 (h0 + 6) = zz_cz (zz_CM σ (h0 + 6)) sh.toInt))) (zz_B E) (zz_A E)) args s 0 0 (zz_A E)) (F0 m 93 ls []) := by
                intro n
                induction n with
                | zero => intro ii σa H locs ls hm; exact absurd hm (Nat.not_lt_zero _)
                | succ n ih93 =>
                  intro ii σa H locs ls hm hC f93_0 f93_1 f93_2 f93_3 f93_4 f93_5 hP hS hl
                  refine lv_iload hx hb dX9_sheet_93 (lv_at hl 0 rfl) ?_
                  refine lv_bipush (v := 24) hx hb dX9_sheet_95 (by decide) ?_
                  refine lv_icmp_ge (tgt := 119) hx hb dX9_sheet_97 (by decide) (fun c76 => ?_) (fun c76 => ?_)
                  · have c76 := zz_leT c76
                    refine lv_iconst (v := 1) hx hb dX9_sheet_119 (by decide) ?_
                    exact zz_iret hx hb hr hlocks hK hP hS dX9_sheet_120 (by exact ⟨hC, ⟨hJ.1.keep (fun k => hC _ _ (by first | (dsimp only; omega) | omega)), hJ.2.1.keep (fun k => hC _ _ (by first | (dsimp only; omega) | omega)), f93_1, (by rw [hC _ _ (by first | (dsimp only; omega) | omega)]; exact htr)⟩, (by unfold zz_sheet; omega), (fun q => absurd q (by omega)), (fun _ => ⟨f93_2, f93_3, zz_CM.cz (j0 := sh.toInt.toNat) (by omega) (by omega) (fun k hk => f93_4 k (by omega)) (fun i hi hq => f93_5 i hi (by omega))⟩)⟩)
                  · have c76 := zz_nleT c76
                    refine lv_aload_n hx hb dX9_sheet_100 rfl (lv_at hl 1 rfl) ?_
                    refine zz_getr hx hb hts hi9 hown hK hP (g0.1) rfl 6 (by decide) (hts (.fieldLink RX9 25 "NoonLawModel" "cells" "[I") (List.mem_cons_of_mem _ bm_98)) rfl rfl dX9_sheet_101 ?_
                    refine lv_bipush (v := 24) hx hb dX9_sheet_104 (by decide) ?_
                    refine lv_iload_n hx hb dX9_sheet_106 rfl (lv_at hl 2 rfl) ?_
                    refine lv_imul hx hb dX9_sheet_107 ?_
                    refine lv_topi (fun n77 e77 => ?_)
                    have f77 : n77.toInt = 24 * (sh).toInt := zz_mulL 24 e77 (by decide) (by omega) (by omega)
                    refine lv_iload hx hb dX9_sheet_108 (lv_at hl 0 rfl) ?_
                    refine lv_iadd hx hb dX9_sheet_110 ?_
                    refine lv_topi (fun n78 e78 => ?_)
                    have f78 : n78.toInt = (n77).toInt + (ii).toInt := zz_addT e78 (by omega) (by omega)
                    refine lv_iconst (v := 0) hx hb dX9_sheet_111 (by decide) ?_
                    refine zz_iast hx hb hK hP hS (g0.2.2.2.2.2.2.1) (by omega) (by omega) dX9_sheet_112 (fun j79 σ79 H locs q79 r79 w79 hP1 hS1 => ?_)
                    replace hP := hP1
                    replace hS := hS1
                    clear hP1 hS1
                    replace hC := hC.u w79 (dS28_10 h0)
                    obtain ⟨n80, e80⟩ : ∃ y : Int32, y = ii + 1 := ⟨_, rfl⟩
                    have f80 : n80.toInt = (ii).toInt + (1) := by have h9 := zz_addT e80 (by omega) (by omega); omega
                    refine lv_iinc (v := n80) (lv' := [(4, .int n80), (0, .ref h0), (1, .int sh), (2, .int bi), (3, .int nn)]) hx hb dX9_sheet_113 hl (k := 0) rfl (by rw [e80]; rfl) (by decide) rfl (fun ls hl => ?_)
                    refine lv_goto (tgt := 93) hx hb dX9_sheet_116 (by decide) ?_
                    exact ih93 n80 σ79 _ _ _ (by omega) hC (by first | omega | exact hI | exact hT) (by intro j hj; rw [w79, zz_un (by omega)]; exact f93_1 j hj) (by rw [zz_HMo (a := h0 + 4) w79 (by omega)]; exact f93_2) (by rw [zz_HMo (a := h0 + 5) w79 (by omega)]; exact f93_3) (by intro k hk; exact if hq : 24 * sh.toInt.toNat + k = j79 then (by rw [hq, w79, zz_us]; exact k_0) else (by rw [w79, zz_un (by omega)]; exact f93_4 k (by omega))) (by intro i hi hq; rw [w79, zz_un (by omega)]; exact f93_5 i hi hq) hP hS (lv_sub hl [0, 1, 2, 3, 4] rfl)
              exact J93 _ 0 σ75 _ _ _ (Nat.lt_succ_self _) hC (by first | omega | exact hI | exact hT) (by intro j hj; exact if hq : j = j75 then (by rw [hq, w75, zz_us]; omega) else (by rw [w75, zz_un (by omega), w73, zz_un (by omega)]; exact hz5 j hj)) (by rw [zz_HMo (a := h0 + 4) w75 (by omega), zz_HMw w73 (by omega : (j73 : Int) = sh.toInt) (by omega)]) (by rw [zz_HMw w75 (by omega : (j75 : Int) = sh.toInt) (by omega), zz_HMo (a := h0 + 5) w73 (by omega), if_neg (by omega)]) (by intro k hk; omega) (by intro i hi hq; rw [w75, zz_un (by omega), w73, zz_un (by omega)]) hP hS (lv_sub hl [0, 1, 2, 3, 4] rfl)
            · have c74 := zz_eqT c74
              refine lv_iconst (v := 0) hx hb dX9_sheet_84 (by decide) ?_
              refine lv_goto (tgt := 89) hx hb dX9_sheet_85 (by decide) ?_
              refine zz_iast hx hb hK hP hS (g0.2.2.2.2.2.1) (by omega) (by omega) dX9_sheet_89 (fun j81 σ81 H locs q81 r81 w81 hP1 hS1 => ?_)
              replace hP := hP1
              replace hS := hS1
              clear hP1 hS1
              replace hC := hC.u w81 (dS28_9 h0)
              refine lv_iconst (v := 0) hx hb dX9_sheet_90 (by decide) ?_
              refine lv_istore (lv' := [(4, .int 0), (0, .ref h0), (1, .int sh), (2, .int bi), (3, .int nn)]) hx hb dX9_sheet_91 hl (by decide) rfl (fun ls hl => ?_)
              have J93 : ∀ (n : Nat) (ii : Int32) (σa : zz_S) (H : Heap) (locs : List Loc) (ls : Array Slot), ((24 - ii.toInt).toNat) < n → (zz_ch (fun a k => (a = h0 + 3 ∨ (h0 + 7 ≤ a ∧ a ≤ h0 + 11)) ∨ a = h0 + 4 ∨ a = h0 + 5 ∨ a = h0 + 6) σ σa) → (0 ≤ ii.toInt) → (∀ j : Nat, j < 4 → 0 ≤ (σa (h0 + 5) j).toInt ∧ (σa (h0 + 5) j).toInt ≤ 24) → (zz_HM σa (h0 + 4) = zz_wn (zz_HM σ (h0 + 4)) sh.toInt bi.toInt) → (zz_HM σa (h0 + 5) = zz_wn (zz_HM σ (h0 + 5)) sh.toInt (if bi.toInt = 0 then 0 else nn.toInt)) → (∀ k : Nat, (k : Int) < ii.toInt → (σa (h0 + 6) (24 * sh.toInt.toNat + k)).toInt = 0) → (∀ i : Nat, i < 96 → (i < 24 * sh.toInt.toNat ∨ 24 * sh.toInt.toNat + 24 ≤ i) → σa (h0 + 6) i = σ (h0 + 6) i) → zz_P E σa H → va_S (zz_A E) s.heap H locs → lv_has ls 5 [(4, .int ii), (0, .ref h0), (1, .int sh), (2, .int bi), (3, .int nn)] → W p l e (headSpec wzX9_sheet ({ frames := 2, cells := 0, slots := 0, locals := 42 })).room s m args below meth c H locs 0 0 (MQ below (va_Qi (fun r σ1 => zz_ch (fun a k => (a = h0 + 3 ∨ (h0 + 7 ≤ a ∧ a ≤ h0 + 11)) ∨ a = h0 + 4 ∨ a = h0 + 5 ∨ a = h0 + 6) σ σ1 ∧ (zz_IM σ1 h0 ∧ zz_sheet sh.toInt bi.toInt nn.toInt r.toInt ∧ (r.toInt < 0 → zz_HM σ1 (h0 + 4) = zz_HM σ (h0 + 4) ∧ zz_HM σ1 (h0 + 5) = zz_HM σ (h0 + 5) ∧ zz_CM σ1 (h0 + 6) = zz_CM σ (h0 + 6)) ∧ (0 ≤ r.toInt → zz_HM σ1 (h0 + 4) = zz_wn (zz_HM σ (h0 + 4)) sh.toInt bi.toInt ∧ zz_HM σ1 (h0 + 5) = zz_wn (zz_HM σ (h0 + 5)) sh.toInt (if bi.toInt = 0 then 0 else nn.toInt) ∧ zz_CM σ1 (h0 + 6) = zz_cz (zz_CM σ (h0 + 6)) sh.toInt))) (zz_B E) (zz_A E)) args s 0 0 (zz_A E)) (F0 m 93 ls []) := by
                intro n
                induction n with
                | zero => intro ii σa H locs ls hm; exact absurd hm (Nat.not_lt_zero _)
                | succ n ih93 =>
                  intro ii σa H locs ls hm hC f93_0 f93_1 f93_2 f93_3 f93_4 f93_5 hP hS hl
                  refine lv_iload hx hb dX9_sheet_93 (lv_at hl 0 rfl) ?_
                  refine lv_bipush (v := 24) hx hb dX9_sheet_95 (by decide) ?_
                  refine lv_icmp_ge (tgt := 119) hx hb dX9_sheet_97 (by decide) (fun c82 => ?_) (fun c82 => ?_)
                  · have c82 := zz_leT c82
                    refine lv_iconst (v := 1) hx hb dX9_sheet_119 (by decide) ?_
                    exact zz_iret hx hb hr hlocks hK hP hS dX9_sheet_120 (by exact ⟨hC, ⟨hJ.1.keep (fun k => hC _ _ (by first | (dsimp only; omega) | omega)), hJ.2.1.keep (fun k => hC _ _ (by first | (dsimp only; omega) | omega)), f93_1, (by rw [hC _ _ (by first | (dsimp only; omega) | omega)]; exact htr)⟩, (by unfold zz_sheet; omega), (fun q => absurd q (by omega)), (fun _ => ⟨f93_2, f93_3, zz_CM.cz (j0 := sh.toInt.toNat) (by omega) (by omega) (fun k hk => f93_4 k (by omega)) (fun i hi hq => f93_5 i hi (by omega))⟩)⟩)
                  · have c82 := zz_nleT c82
                    refine lv_aload_n hx hb dX9_sheet_100 rfl (lv_at hl 1 rfl) ?_
                    refine zz_getr hx hb hts hi9 hown hK hP (g0.1) rfl 6 (by decide) (hts (.fieldLink RX9 25 "NoonLawModel" "cells" "[I") (List.mem_cons_of_mem _ bm_98)) rfl rfl dX9_sheet_101 ?_
                    refine lv_bipush (v := 24) hx hb dX9_sheet_104 (by decide) ?_
                    refine lv_iload_n hx hb dX9_sheet_106 rfl (lv_at hl 2 rfl) ?_
                    refine lv_imul hx hb dX9_sheet_107 ?_
                    refine lv_topi (fun n83 e83 => ?_)
                    have f83 : n83.toInt = 24 * (sh).toInt := zz_mulL 24 e83 (by decide) (by omega) (by omega)
                    refine lv_iload hx hb dX9_sheet_108 (lv_at hl 0 rfl) ?_
                    refine lv_iadd hx hb dX9_sheet_110 ?_
                    refine lv_topi (fun n84 e84 => ?_)
                    have f84 : n84.toInt = (n83).toInt + (ii).toInt := zz_addT e84 (by omega) (by omega)
                    refine lv_iconst (v := 0) hx hb dX9_sheet_111 (by decide) ?_
                    refine zz_iast hx hb hK hP hS (g0.2.2.2.2.2.2.1) (by omega) (by omega) dX9_sheet_112 (fun j85 σ85 H locs q85 r85 w85 hP1 hS1 => ?_)
                    replace hP := hP1
                    replace hS := hS1
                    clear hP1 hS1
                    replace hC := hC.u w85 (dS28_10 h0)
                    obtain ⟨n86, e86⟩ : ∃ y : Int32, y = ii + 1 := ⟨_, rfl⟩
                    have f86 : n86.toInt = (ii).toInt + (1) := by have h9 := zz_addT e86 (by omega) (by omega); omega
                    refine lv_iinc (v := n86) (lv' := [(4, .int n86), (0, .ref h0), (1, .int sh), (2, .int bi), (3, .int nn)]) hx hb dX9_sheet_113 hl (k := 0) rfl (by rw [e86]; rfl) (by decide) rfl (fun ls hl => ?_)
                    refine lv_goto (tgt := 93) hx hb dX9_sheet_116 (by decide) ?_
                    exact ih93 n86 σ85 _ _ _ (by omega) hC (by first | omega | exact hI | exact hT) (by intro j hj; rw [w85, zz_un (by omega)]; exact f93_1 j hj) (by rw [zz_HMo (a := h0 + 4) w85 (by omega)]; exact f93_2) (by rw [zz_HMo (a := h0 + 5) w85 (by omega)]; exact f93_3) (by intro k hk; exact if hq : 24 * sh.toInt.toNat + k = j85 then (by rw [hq, w85, zz_us]; exact k_0) else (by rw [w85, zz_un (by omega)]; exact f93_4 k (by omega))) (by intro i hi hq; rw [w85, zz_un (by omega)]; exact f93_5 i hi hq) hP hS (lv_sub hl [0, 1, 2, 3, 4] rfl)
              exact J93 _ 0 σ81 _ _ _ (Nat.lt_succ_self _) hC (by first | omega | exact hI | exact hT) (by intro j hj; exact if hq : j = j81 then (by rw [hq, w81, zz_us]; omega) else (by rw [w81, zz_un (by omega), w73, zz_un (by omega)]; exact hz5 j hj)) (by rw [zz_HMo (a := h0 + 4) w81 (by omega), zz_HMw w73 (by omega : (j73 : Int) = sh.toInt) (by omega)]) (by rw [zz_HMw w81 (by omega : (j81 : Int) = sh.toInt) (by omega), zz_HMo (a := h0 + 5) w73 (by omega), if_pos (by omega), k_0]) (by intro k hk; omega) (by intro i hi hq; rw [w81, zz_un (by omega), w73, zz_un (by omega)]) hP hS (lv_sub hl [0, 1, 2, 3, 4] rfl)
          · have c72 := zz_nleT c72
            refine lv_iload_n hx hb dX9_sheet_55 rfl (lv_at hl 3 rfl) ?_
            refine lv_bipush (v := 24) hx hb dX9_sheet_56 (by decide) ?_
            refine lv_icmp_le (tgt := 68) hx hb dX9_sheet_58 (by decide) (fun c87 => ?_) (fun c87 => ?_)
            · have c87 := zz_leT c87
              refine lv_aload_n hx hb dX9_sheet_68 rfl (lv_at hl 0 rfl) ?_
              refine zz_getr hx hb hts hi9 hown hK hP (g0.1) rfl 4 (by decide) (hts (.fieldLink RX9 19 "NoonLawModel" "bitsOf" "[I") (List.mem_cons_of_mem _ bm_96)) rfl rfl dX9_sheet_69 ?_
              refine lv_iload_n hx hb dX9_sheet_72 rfl (lv_at hl 1 rfl) ?_
              refine lv_iload_n hx hb dX9_sheet_73 rfl (lv_at hl 2 rfl) ?_
              refine zz_iast hx hb hK hP hS (g0.2.2.2.2.1) (by omega) (by omega) dX9_sheet_74 (fun j88 σ88 H locs q88 r88 w88 hP1 hS1 => ?_)
              replace hP := hP1
              replace hS := hS1
              clear hP1 hS1
              replace hC := hC.u w88 (dS28_8 h0)
              refine lv_aload_n hx hb dX9_sheet_75 rfl (lv_at hl 0 rfl) ?_
              refine zz_getr hx hb hts hi9 hown hK hP (g0.1) rfl 5 (by decide) (hts (.fieldLink RX9 22 "NoonLawModel" "sizeOf" "[I") (List.mem_cons_of_mem _ bm_97)) rfl rfl dX9_sheet_76 ?_
              refine lv_iload_n hx hb dX9_sheet_79 rfl (lv_at hl 1 rfl) ?_
              refine lv_iload_n hx hb dX9_sheet_80 rfl (lv_at hl 2 rfl) ?_
              refine lv_if_ne (tgt := 88) hx hb dX9_sheet_81 (by decide) (fun c89 => ?_) (fun c89 => ?_)
              · have c89 := zz_neT c89
                refine lv_iload_n hx hb dX9_sheet_88 rfl (lv_at hl 3 rfl) ?_
                refine zz_iast hx hb hK hP hS (g0.2.2.2.2.2.1) (by omega) (by omega) dX9_sheet_89 (fun j90 σ90 H locs q90 r90 w90 hP1 hS1 => ?_)
                replace hP := hP1
                replace hS := hS1
                clear hP1 hS1
                replace hC := hC.u w90 (dS28_9 h0)
                refine lv_iconst (v := 0) hx hb dX9_sheet_90 (by decide) ?_
                refine lv_istore (lv' := [(4, .int 0), (0, .ref h0), (1, .int sh), (2, .int bi), (3, .int nn)]) hx hb dX9_sheet_91 hl (by decide) rfl (fun ls hl => ?_)
                have J93 : ∀ (n : Nat) (ii : Int32) (σa : zz_S) (H : Heap) (locs : List Loc) (ls : Array Slot), ((24 - ii.toInt).toNat) < n → (zz_ch (fun a k => (a = h0 + 3 ∨ (h0 + 7 ≤ a ∧ a ≤ h0 + 11)) ∨ a = h0 + 4 ∨ a = h0 + 5 ∨ a = h0 + 6) σ σa) → (0 ≤ ii.toInt) → (∀ j : Nat, j < 4 → 0 ≤ (σa (h0 + 5) j).toInt ∧ (σa (h0 + 5) j).toInt ≤ 24) → (zz_HM σa (h0 + 4) = zz_wn (zz_HM σ (h0 + 4)) sh.toInt bi.toInt) → (zz_HM σa (h0 + 5) = zz_wn (zz_HM σ (h0 + 5)) sh.toInt (if bi.toInt = 0 then 0 else nn.toInt)) → (∀ k : Nat, (k : Int) < ii.toInt → (σa (h0 + 6) (24 * sh.toInt.toNat + k)).toInt = 0) → (∀ i : Nat, i < 96 → (i < 24 * sh.toInt.toNat ∨ 24 * sh.toInt.toNat + 24 ≤ i) → σa (h0 + 6) i = σ (h0 + 6) i) → zz_P E σa H → va_S (zz_A E) s.heap H locs → lv_has ls 5 [(4, .int ii), (0, .ref h0), (1, .int sh), (2, .int bi), (3, .int nn)] → W p l e (headSpec wzX9_sheet ({ frames := 2, cells := 0, slots := 0, locals := 42 })).room s m args below meth c H locs 0 0 (MQ below (va_Qi (fun r σ1 => zz_ch (fun a k => (a = h0 + 3 ∨ (h0 + 7 ≤ a ∧ a ≤ h0 + 11)) ∨ a = h0 + 4 ∨ a = h0 + 5 ∨ a = h0 + 6) σ σ1 ∧ (zz_IM σ1 h0 ∧ zz_sheet sh.toInt bi.toInt nn.toInt r.toInt ∧ (r.toInt < 0 → zz_HM σ1 (h0 + 4) = zz_HM σ (h0 + 4) ∧ zz_HM σ1 (h0 + 5) = zz_HM σ (h0 + 5) ∧ zz_CM σ1 (h0 + 6) = zz_CM σ (h0 + 6)) ∧ (0 ≤ r.toInt → zz_HM σ1 (h0 + 4) = zz_wn (zz_HM σ (h0 + 4)) sh.toInt bi.toInt ∧ zz_HM σ1 (h0 + 5) = zz_wn (zz_HM σ (h0 + 5)) sh.toInt (if bi.toInt = 0 then 0 else nn.toInt) ∧ zz_CM σ1 (h0 + 6) = zz_cz (zz_CM σ (h0 + 6)) sh.toInt))) (zz_B E) (zz_A E)) args s 0 0 (zz_A E)) (F0 m 93 ls []) := by
                  intro n
                  induction n with
                  | zero => intro ii σa H locs ls hm; exact absurd hm (Nat.not_lt_zero _)
                  | succ n ih93 =>
                    intro ii σa H locs ls hm hC f93_0 f93_1 f93_2 f93_3 f93_4 f93_5 hP hS hl
                    refine lv_iload hx hb dX9_sheet_93 (lv_at hl 0 rfl) ?_
                    refine lv_bipush (v := 24) hx hb dX9_sheet_95 (by decide) ?_
                    refine lv_icmp_ge (tgt := 119) hx hb dX9_sheet_97 (by decide) (fun c91 => ?_) (fun c91 => ?_)
                    · have c91 := zz_leT c91
                      refine lv_iconst (v := 1) hx hb dX9_sheet_119 (by decide) ?_
                      exact zz_iret hx hb hr hlocks hK hP hS dX9_sheet_120 (by exact ⟨hC, ⟨hJ.1.keep (fun k => hC _ _ (by first | (dsimp only; omega) | omega)), hJ.2.1.keep (fun k => hC _ _ (by first | (dsimp only; omega) | omega)), f93_1, (by rw [hC _ _ (by first | (dsimp only; omega) | omega)]; exact htr)⟩, (by unfold zz_sheet; omega), (fun q => absurd q (by omega)), (fun _ => ⟨f93_2, f93_3, zz_CM.cz (j0 := sh.toInt.toNat) (by omega) (by omega) (fun k hk => f93_4 k (by omega)) (fun i hi hq => f93_5 i hi (by omega))⟩)⟩)
                    · have c91 := zz_nleT c91
                      refine lv_aload_n hx hb dX9_sheet_100 rfl (lv_at hl 1 rfl) ?_
                      refine zz_getr hx hb hts hi9 hown hK hP (g0.1) rfl 6 (by decide) (hts (.fieldLink RX9 25 "NoonLawModel" "cells" "[I") (List.mem_cons_of_mem _ bm_98)) rfl rfl dX9_sheet_101 ?_
                      refine lv_bipush (v := 24) hx hb dX9_sheet_104 (by decide) ?_
                      refine lv_iload_n hx hb dX9_sheet_106 rfl (lv_at hl 2 rfl) ?_
                      refine lv_imul hx hb dX9_sheet_107 ?_
                      refine lv_topi (fun n92 e92 => ?_)
                      have f92 : n92.toInt = 24 * (sh).toInt := zz_mulL 24 e92 (by decide) (by omega) (by omega)
                      refine lv_iload hx hb dX9_sheet_108 (lv_at hl 0 rfl) ?_
                      refine lv_iadd hx hb dX9_sheet_110 ?_
                      refine lv_topi (fun n93 e93 => ?_)
                      have f93 : n93.toInt = (n92).toInt + (ii).toInt := zz_addT e93 (by omega) (by omega)
                      refine lv_iconst (v := 0) hx hb dX9_sheet_111 (by decide) ?_
                      refine zz_iast hx hb hK hP hS (g0.2.2.2.2.2.2.1) (by omega) (by omega) dX9_sheet_112 (fun j94 σ94 H locs q94 r94 w94 hP1 hS1 => ?_)
                      replace hP := hP1
                      replace hS := hS1
                      clear hP1 hS1
                      replace hC := hC.u w94 (dS28_10 h0)
                      obtain ⟨n95, e95⟩ : ∃ y : Int32, y = ii + 1 := ⟨_, rfl⟩
                      have f95 : n95.toInt = (ii).toInt + (1) := by have h9 := zz_addT e95 (by omega) (by omega); omega
                      refine lv_iinc (v := n95) (lv' := [(4, .int n95), (0, .ref h0), (1, .int sh), (2, .int bi), (3, .int nn)]) hx hb dX9_sheet_113 hl (k := 0) rfl (by rw [e95]; rfl) (by decide) rfl (fun ls hl => ?_)
                      refine lv_goto (tgt := 93) hx hb dX9_sheet_116 (by decide) ?_
                      exact ih93 n95 σ94 _ _ _ (by omega) hC (by first | omega | exact hI | exact hT) (by intro j hj; rw [w94, zz_un (by omega)]; exact f93_1 j hj) (by rw [zz_HMo (a := h0 + 4) w94 (by omega)]; exact f93_2) (by rw [zz_HMo (a := h0 + 5) w94 (by omega)]; exact f93_3) (by intro k hk; exact if hq : 24 * sh.toInt.toNat + k = j94 then (by rw [hq, w94, zz_us]; exact k_0) else (by rw [w94, zz_un (by omega)]; exact f93_4 k (by omega))) (by intro i hi hq; rw [w94, zz_un (by omega)]; exact f93_5 i hi hq) hP hS (lv_sub hl [0, 1, 2, 3, 4] rfl)
                exact J93 _ 0 σ90 _ _ _ (Nat.lt_succ_self _) hC (by first | omega | exact hI | exact hT) (by intro j hj; exact if hq : j = j90 then (by rw [hq, w90, zz_us]; omega) else (by rw [w90, zz_un (by omega), w88, zz_un (by omega)]; exact hz5 j hj)) (by rw [zz_HMo (a := h0 + 4) w90 (by omega), zz_HMw w88 (by omega : (j88 : Int) = sh.toInt) (by omega)]) (by rw [zz_HMw w90 (by omega : (j90 : Int) = sh.toInt) (by omega), zz_HMo (a := h0 + 5) w88 (by omega), if_neg (by omega)]) (by intro k hk; omega) (by intro i hi hq; rw [w90, zz_un (by omega), w88, zz_un (by omega)]) hP hS (lv_sub hl [0, 1, 2, 3, 4] rfl)
              · have c89 := zz_eqT c89
                refine lv_iconst (v := 0) hx hb dX9_sheet_84 (by decide) ?_
                refine lv_goto (tgt := 89) hx hb dX9_sheet_85 (by decide) ?_
                refine zz_iast hx hb hK hP hS (g0.2.2.2.2.2.1) (by omega) (by omega) dX9_sheet_89 (fun j96 σ96 H locs q96 r96 w96 hP1 hS1 => ?_)
                replace hP := hP1
                replace hS := hS1
                clear hP1 hS1
                replace hC := hC.u w96 (dS28_9 h0)
                refine lv_iconst (v := 0) hx hb dX9_sheet_90 (by decide) ?_
                refine lv_istore (lv' := [(4, .int 0), (0, .ref h0), (1, .int sh), (2, .int bi), (3, .int nn)]) hx hb dX9_sheet_91 hl (by decide) rfl (fun ls hl => ?_)
                have J93 : ∀ (n : Nat) (ii : Int32) (σa : zz_S) (H : Heap) (locs : List Loc) (ls : Array Slot), ((24 - ii.toInt).toNat) < n → (zz_ch (fun a k => (a = h0 + 3 ∨ (h0 + 7 ≤ a ∧ a ≤ h0 + 11)) ∨ a = h0 + 4 ∨ a = h0 + 5 ∨ a = h0 + 6) σ σa) → (0 ≤ ii.toInt) → (∀ j : Nat, j < 4 → 0 ≤ (σa (h0 + 5) j).toInt ∧ (σa (h0 + 5) j).toInt ≤ 24) → (zz_HM σa (h0 + 4) = zz_wn (zz_HM σ (h0 + 4)) sh.toInt bi.toInt) → (zz_HM σa (h0 + 5) = zz_wn (zz_HM σ (h0 + 5)) sh.toInt (if bi.toInt = 0 then 0 else nn.toInt)) → (∀ k : Nat, (k : Int) < ii.toInt → (σa (h0 + 6) (24 * sh.toInt.toNat + k)).toInt = 0) → (∀ i : Nat, i < 96 → (i < 24 * sh.toInt.toNat ∨ 24 * sh.toInt.toNat + 24 ≤ i) → σa (h0 + 6) i = σ (h0 + 6) i) → zz_P E σa H → va_S (zz_A E) s.heap H locs → lv_has ls 5 [(4, .int ii), (0, .ref h0), (1, .int sh), (2, .int bi), (3, .int nn)] → W p l e (headSpec wzX9_sheet ({ frames := 2, cells := 0, slots := 0, locals := 42 })).room s m args below meth c H locs 0 0 (MQ below (va_Qi (fun r σ1 => zz_ch (fun a k => (a = h0 + 3 ∨ (h0 + 7 ≤ a ∧ a ≤ h0 + 11)) ∨ a = h0 + 4 ∨ a = h0 + 5 ∨ a = h0 + 6) σ σ1 ∧ (zz_IM σ1 h0 ∧ zz_sheet sh.toInt bi.toInt nn.toInt r.toInt ∧ (r.toInt < 0 → zz_HM σ1 (h0 + 4) = zz_HM σ (h0 + 4) ∧ zz_HM σ1 (h0 + 5) = zz_HM σ (h0 + 5) ∧ zz_CM σ1 (h0 + 6) = zz_CM σ (h0 + 6)) ∧ (0 ≤ r.toInt → zz_HM σ1 (h0 + 4) = zz_wn (zz_HM σ (h0 + 4)) sh.toInt bi.toInt ∧ zz_HM σ1 (h0 + 5) = zz_wn (zz_HM σ (h0 + 5)) sh.toInt (if bi.toInt = 0 then 0 else nn.toInt) ∧ zz_CM σ1 (h0 + 6) = zz_cz (zz_CM σ (h0 + 6)) sh.toInt))) (zz_B E) (zz_A E)) args s 0 0 (zz_A E)) (F0 m 93 ls []) := by
                  intro n
                  induction n with
                  | zero => intro ii σa H locs ls hm; exact absurd hm (Nat.not_lt_zero _)
                  | succ n ih93 =>
                    intro ii σa H locs ls hm hC f93_0 f93_1 f93_2 f93_3 f93_4 f93_5 hP hS hl
                    refine lv_iload hx hb dX9_sheet_93 (lv_at hl 0 rfl) ?_
                    refine lv_bipush (v := 24) hx hb dX9_sheet_95 (by decide) ?_
                    refine lv_icmp_ge (tgt := 119) hx hb dX9_sheet_97 (by decide) (fun c97 => ?_) (fun c97 => ?_)
                    · have c97 := zz_leT c97
                      refine lv_iconst (v := 1) hx hb dX9_sheet_119 (by decide) ?_
                      exact zz_iret hx hb hr hlocks hK hP hS dX9_sheet_120 (by exact ⟨hC, ⟨hJ.1.keep (fun k => hC _ _ (by first | (dsimp only; omega) | omega)), hJ.2.1.keep (fun k => hC _ _ (by first | (dsimp only; omega) | omega)), f93_1, (by rw [hC _ _ (by first | (dsimp only; omega) | omega)]; exact htr)⟩, (by unfold zz_sheet; omega), (fun q => absurd q (by omega)), (fun _ => ⟨f93_2, f93_3, zz_CM.cz (j0 := sh.toInt.toNat) (by omega) (by omega) (fun k hk => f93_4 k (by omega)) (fun i hi hq => f93_5 i hi (by omega))⟩)⟩)
                    · have c97 := zz_nleT c97
                      refine lv_aload_n hx hb dX9_sheet_100 rfl (lv_at hl 1 rfl) ?_
                      refine zz_getr hx hb hts hi9 hown hK hP (g0.1) rfl 6 (by decide) (hts (.fieldLink RX9 25 "NoonLawModel" "cells" "[I") (List.mem_cons_of_mem _ bm_98)) rfl rfl dX9_sheet_101 ?_
                      refine lv_bipush (v := 24) hx hb dX9_sheet_104 (by decide) ?_
                      refine lv_iload_n hx hb dX9_sheet_106 rfl (lv_at hl 2 rfl) ?_
                      refine lv_imul hx hb dX9_sheet_107 ?_
                      refine lv_topi (fun n98 e98 => ?_)
                      have f98 : n98.toInt = 24 * (sh).toInt := zz_mulL 24 e98 (by decide) (by omega) (by omega)
                      refine lv_iload hx hb dX9_sheet_108 (lv_at hl 0 rfl) ?_
                      refine lv_iadd hx hb dX9_sheet_110 ?_
                      refine lv_topi (fun n99 e99 => ?_)
                      have f99 : n99.toInt = (n98).toInt + (ii).toInt := zz_addT e99 (by omega) (by omega)
                      refine lv_iconst (v := 0) hx hb dX9_sheet_111 (by decide) ?_
                      refine zz_iast hx hb hK hP hS (g0.2.2.2.2.2.2.1) (by omega) (by omega) dX9_sheet_112 (fun j100 σ100 H locs q100 r100 w100 hP1 hS1 => ?_)
                      replace hP := hP1
                      replace hS := hS1
                      clear hP1 hS1
                      replace hC := hC.u w100 (dS28_10 h0)
                      obtain ⟨n101, e101⟩ : ∃ y : Int32, y = ii + 1 := ⟨_, rfl⟩
                      have f101 : n101.toInt = (ii).toInt + (1) := by have h9 := zz_addT e101 (by omega) (by omega); omega
                      refine lv_iinc (v := n101) (lv' := [(4, .int n101), (0, .ref h0), (1, .int sh), (2, .int bi), (3, .int nn)]) hx hb dX9_sheet_113 hl (k := 0) rfl (by rw [e101]; rfl) (by decide) rfl (fun ls hl => ?_)
                      refine lv_goto (tgt := 93) hx hb dX9_sheet_116 (by decide) ?_
                      exact ih93 n101 σ100 _ _ _ (by omega) hC (by first | omega | exact hI | exact hT) (by intro j hj; rw [w100, zz_un (by omega)]; exact f93_1 j hj) (by rw [zz_HMo (a := h0 + 4) w100 (by omega)]; exact f93_2) (by rw [zz_HMo (a := h0 + 5) w100 (by omega)]; exact f93_3) (by intro k hk; exact if hq : 24 * sh.toInt.toNat + k = j100 then (by rw [hq, w100, zz_us]; exact k_0) else (by rw [w100, zz_un (by omega)]; exact f93_4 k (by omega))) (by intro i hi hq; rw [w100, zz_un (by omega)]; exact f93_5 i hi hq) hP hS (lv_sub hl [0, 1, 2, 3, 4] rfl)
                exact J93 _ 0 σ96 _ _ _ (Nat.lt_succ_self _) hC (by first | omega | exact hI | exact hT) (by intro j hj; exact if hq : j = j96 then (by rw [hq, w96, zz_us]; omega) else (by rw [w96, zz_un (by omega), w88, zz_un (by omega)]; exact hz5 j hj)) (by rw [zz_HMo (a := h0 + 4) w96 (by omega), zz_HMw w88 (by omega : (j88 : Int) = sh.toInt) (by omega)]) (by rw [zz_HMw w96 (by omega : (j96 : Int) = sh.toInt) (by omega), zz_HMo (a := h0 + 5) w88 (by omega), if_pos (by omega), k_0]) (by intro k hk; omega) (by intro i hi hq; rw [w96, zz_un (by omega), w88, zz_un (by omega)]) hP hS (lv_sub hl [0, 1, 2, 3, 4] rfl)
            · have c87 := zz_nleT c87
              refine lv_aload_n hx hb dX9_sheet_61 rfl (lv_at hl 0 rfl) ?_
              refine lv_ldc (v := (-1000000001)) hx hb hown (hts (.constant RX9 93 (-1000000001)) (List.mem_cons_of_mem _ bm_138)) dX9_sheet_62 ?_
              refine zz_callVi (As := [.int (-1000000001)]) (rest := []) ⟨hx, hb, hml, hown, hts⟩ hK hP hS (c_X9_error l E σ h0 (-1000000001) g0 (by omega)) (cwV 1 hts gX9_sheet_X9_error rfl rfl rfl (by decide +kernel) ⟨Nat.le_of_ble_eq_true rfl, Nat.le_of_ble_eq_true rfl⟩) (g0.1) rfl rfl hl.1 rfl (Nat.le_of_ble_eq_true rfl) dX9_sheet_64 ⟨Nat.zero_le _, Nat.zero_le _⟩ (fun r102 σ102 H locs q102 hP1 hS1 => ?_)
              replace hP := hP1
              replace hS := hS1
              clear hP1 hS1
              try dsimp only at q102
              obtain ⟨w102, f102⟩ := q102
              replace hC := hC.tr (w102.mono (dS28_7 h0))
              exact zz_iret hx hb hr hlocks hK hP hS dX9_sheet_67 (by exact ⟨hC, (hJ.soft (w102.mono (by intro a k h; omega))), (by unfold zz_sheet; omega), (fun _ => ⟨zz_HM.eq (fun j hj => w102 _ _ (by first | (dsimp only; omega) | omega)), zz_HM.eq (fun j hj => w102 _ _ (by first | (dsimp only; omega) | omega)), zz_CM.eq (fun k hk => w102 _ _ (by first | (dsimp only; omega) | omega))⟩), (fun q => absurd q (by omega))⟩)
        · have c71 := zz_nleT c71
          refine lv_iload_n hx hb dX9_sheet_40 rfl (lv_at hl 3 rfl) ?_
          refine lv_if_ge (tgt := 51) hx hb dX9_sheet_41 (by decide) (fun c103 => ?_) (fun c103 => ?_)
          · have c103 := zz_leT c103
            refine lv_iload_n hx hb dX9_sheet_51 rfl (lv_at hl 2 rfl) ?_
            refine lv_if_le (tgt := 68) hx hb dX9_sheet_52 (by decide) (fun c104 => ?_) (fun c104 => ?_)
            · have c104 := zz_leT c104
              refine lv_aload_n hx hb dX9_sheet_68 rfl (lv_at hl 0 rfl) ?_
              refine zz_getr hx hb hts hi9 hown hK hP (g0.1) rfl 4 (by decide) (hts (.fieldLink RX9 19 "NoonLawModel" "bitsOf" "[I") (List.mem_cons_of_mem _ bm_96)) rfl rfl dX9_sheet_69 ?_
              refine lv_iload_n hx hb dX9_sheet_72 rfl (lv_at hl 1 rfl) ?_
              refine lv_iload_n hx hb dX9_sheet_73 rfl (lv_at hl 2 rfl) ?_
              refine zz_iast hx hb hK hP hS (g0.2.2.2.2.1) (by omega) (by omega) dX9_sheet_74 (fun j105 σ105 H locs q105 r105 w105 hP1 hS1 => ?_)
              replace hP := hP1
              replace hS := hS1
              clear hP1 hS1
              replace hC := hC.u w105 (dS28_8 h0)
              refine lv_aload_n hx hb dX9_sheet_75 rfl (lv_at hl 0 rfl) ?_
              refine zz_getr hx hb hts hi9 hown hK hP (g0.1) rfl 5 (by decide) (hts (.fieldLink RX9 22 "NoonLawModel" "sizeOf" "[I") (List.mem_cons_of_mem _ bm_97)) rfl rfl dX9_sheet_76 ?_
              refine lv_iload_n hx hb dX9_sheet_79 rfl (lv_at hl 1 rfl) ?_
              refine lv_iload_n hx hb dX9_sheet_80 rfl (lv_at hl 2 rfl) ?_
              refine lv_if_ne (tgt := 88) hx hb dX9_sheet_81 (by decide) (fun c106 => ?_) (fun c106 => ?_)
              · have c106 := zz_neT c106
                refine lv_iload_n hx hb dX9_sheet_88 rfl (lv_at hl 3 rfl) ?_
                refine zz_iast hx hb hK hP hS (g0.2.2.2.2.2.1) (by omega) (by omega) dX9_sheet_89 (fun j107 σ107 H locs q107 r107 w107 hP1 hS1 => ?_)
                replace hP := hP1
                replace hS := hS1
                clear hP1 hS1
                replace hC := hC.u w107 (dS28_9 h0)
                refine lv_iconst (v := 0) hx hb dX9_sheet_90 (by decide) ?_
                refine lv_istore (lv' := [(4, .int 0), (0, .ref h0), (1, .int sh), (2, .int bi), (3, .int nn)]) hx hb dX9_sheet_91 hl (by decide) rfl (fun ls hl => ?_)
                have J93 : ∀ (n : Nat) (ii : Int32) (σa : zz_S) (H : Heap) (locs : List Loc) (ls : Array Slot), ((24 - ii.toInt).toNat) < n → (zz_ch (fun a k => (a = h0 + 3 ∨ (h0 + 7 ≤ a ∧ a ≤ h0 + 11)) ∨ a = h0 + 4 ∨ a = h0 + 5 ∨ a = h0 + 6) σ σa) → (0 ≤ ii.toInt) → (∀ j : Nat, j < 4 → 0 ≤ (σa (h0 + 5) j).toInt ∧ (σa (h0 + 5) j).toInt ≤ 24) → (zz_HM σa (h0 + 4) = zz_wn (zz_HM σ (h0 + 4)) sh.toInt bi.toInt) → (zz_HM σa (h0 + 5) = zz_wn (zz_HM σ (h0 + 5)) sh.toInt (if bi.toInt = 0 then 0 else nn.toInt)) → (∀ k : Nat, (k : Int) < ii.toInt → (σa (h0 + 6) (24 * sh.toInt.toNat + k)).toInt = 0) → (∀ i : Nat, i < 96 → (i < 24 * sh.toInt.toNat ∨ 24 * sh.toInt.toNat + 24 ≤ i) → σa (h0 + 6) i = σ (h0 + 6) i) → zz_P E σa H → va_S (zz_A E) s.heap H locs → lv_has ls 5 [(4, .int ii), (0, .ref h0), (1, .int sh), (2, .int bi), (3, .int nn)] → W p l e (headSpec wzX9_sheet ({ frames := 2, cells := 0, slots := 0, locals := 42 })).room s m args below meth c H locs 0 0 (MQ below (va_Qi (fun r σ1 => zz_ch (fun a k => (a = h0 + 3 ∨ (h0 + 7 ≤ a ∧ a ≤ h0 + 11)) ∨ a = h0 + 4 ∨ a = h0 + 5 ∨ a = h0 + 6) σ σ1 ∧ (zz_IM σ1 h0 ∧ zz_sheet sh.toInt bi.toInt nn.toInt r.toInt ∧ (r.toInt < 0 → zz_HM σ1 (h0 + 4) = zz_HM σ (h0 + 4) ∧ zz_HM σ1 (h0 + 5) = zz_HM σ (h0 + 5) ∧ zz_CM σ1 (h0 + 6) = zz_CM σ (h0 + 6)) ∧ (0 ≤ r.toInt → zz_HM σ1 (h0 + 4) = zz_wn (zz_HM σ (h0 + 4)) sh.toInt bi.toInt ∧ zz_HM σ1 (h0 + 5) = zz_wn (zz_HM σ (h0 + 5)) sh.toInt (if bi.toInt = 0 then 0 else nn.toInt) ∧ zz_CM σ1 (h0 + 6) = zz_cz (zz_CM σ (h0 + 6)) sh.toInt))) (zz_B E) (zz_A E)) args s 0 0 (zz_A E)) (F0 m 93 ls []) := by
                  intro n
                  induction n with
                  | zero => intro ii σa H locs ls hm; exact absurd hm (Nat.not_lt_zero _)
                  | succ n ih93 =>
                    intro ii σa H locs ls hm hC f93_0 f93_1 f93_2 f93_3 f93_4 f93_5 hP hS hl
                    refine lv_iload hx hb dX9_sheet_93 (lv_at hl 0 rfl) ?_
                    refine lv_bipush (v := 24) hx hb dX9_sheet_95 (by decide) ?_
                    refine lv_icmp_ge (tgt := 119) hx hb dX9_sheet_97 (by decide) (fun c108 => ?_) (fun c108 => ?_)
                    · have c108 := zz_leT c108
                      refine lv_iconst (v := 1) hx hb dX9_sheet_119 (by decide) ?_
                      exact zz_iret hx hb hr hlocks hK hP hS dX9_sheet_120 (by exact ⟨hC, ⟨hJ.1.keep (fun k => hC _ _ (by first | (dsimp only; omega) | omega)), hJ.2.1.keep (fun k => hC _ _ (by first | (dsimp only; omega) | omega)), f93_1, (by rw [hC _ _ (by first | (dsimp only; omega) | omega)]; exact htr)⟩, (by unfold zz_sheet; omega), (fun q => absurd q (by omega)), (fun _ => ⟨f93_2, f93_3, zz_CM.cz (j0 := sh.toInt.toNat) (by omega) (by omega) (fun k hk => f93_4 k (by omega)) (fun i hi hq => f93_5 i hi (by omega))⟩)⟩)
                    · have c108 := zz_nleT c108
                      refine lv_aload_n hx hb dX9_sheet_100 rfl (lv_at hl 1 rfl) ?_
                      refine zz_getr hx hb hts hi9 hown hK hP (g0.1) rfl 6 (by decide) (hts (.fieldLink RX9 25 "NoonLawModel" "cells" "[I") (List.mem_cons_of_mem _ bm_98)) rfl rfl dX9_sheet_101 ?_
                      refine lv_bipush (v := 24) hx hb dX9_sheet_104 (by decide) ?_
                      refine lv_iload_n hx hb dX9_sheet_106 rfl (lv_at hl 2 rfl) ?_
                      refine lv_imul hx hb dX9_sheet_107 ?_
                      refine lv_topi (fun n109 e109 => ?_)
                      have f109 : n109.toInt = 24 * (sh).toInt := zz_mulL 24 e109 (by decide) (by omega) (by omega)
                      refine lv_iload hx hb dX9_sheet_108 (lv_at hl 0 rfl) ?_
                      refine lv_iadd hx hb dX9_sheet_110 ?_
                      refine lv_topi (fun n110 e110 => ?_)
                      have f110 : n110.toInt = (n109).toInt + (ii).toInt := zz_addT e110 (by omega) (by omega)
                      refine lv_iconst (v := 0) hx hb dX9_sheet_111 (by decide) ?_
                      refine zz_iast hx hb hK hP hS (g0.2.2.2.2.2.2.1) (by omega) (by omega) dX9_sheet_112 (fun j111 σ111 H locs q111 r111 w111 hP1 hS1 => ?_)
                      replace hP := hP1
                      replace hS := hS1
                      clear hP1 hS1
                      replace hC := hC.u w111 (dS28_10 h0)
                      obtain ⟨n112, e112⟩ : ∃ y : Int32, y = ii + 1 := ⟨_, rfl⟩
                      have f112 : n112.toInt = (ii).toInt + (1) := by have h9 := zz_addT e112 (by omega) (by omega); omega
                      refine lv_iinc (v := n112) (lv' := [(4, .int n112), (0, .ref h0), (1, .int sh), (2, .int bi), (3, .int nn)]) hx hb dX9_sheet_113 hl (k := 0) rfl (by rw [e112]; rfl) (by decide) rfl (fun ls hl => ?_)
                      refine lv_goto (tgt := 93) hx hb dX9_sheet_116 (by decide) ?_
                      exact ih93 n112 σ111 _ _ _ (by omega) hC (by first | omega | exact hI | exact hT) (by intro j hj; rw [w111, zz_un (by omega)]; exact f93_1 j hj) (by rw [zz_HMo (a := h0 + 4) w111 (by omega)]; exact f93_2) (by rw [zz_HMo (a := h0 + 5) w111 (by omega)]; exact f93_3) (by intro k hk; exact if hq : 24 * sh.toInt.toNat + k = j111 then (by rw [hq, w111, zz_us]; exact k_0) else (by rw [w111, zz_un (by omega)]; exact f93_4 k (by omega))) (by intro i hi hq; rw [w111, zz_un (by omega)]; exact f93_5 i hi hq) hP hS (lv_sub hl [0, 1, 2, 3, 4] rfl)
                exact J93 _ 0 σ107 _ _ _ (Nat.lt_succ_self _) hC (by first | omega | exact hI | exact hT) (by intro j hj; exact if hq : j = j107 then (by rw [hq, w107, zz_us]; omega) else (by rw [w107, zz_un (by omega), w105, zz_un (by omega)]; exact hz5 j hj)) (by rw [zz_HMo (a := h0 + 4) w107 (by omega), zz_HMw w105 (by omega : (j105 : Int) = sh.toInt) (by omega)]) (by rw [zz_HMw w107 (by omega : (j107 : Int) = sh.toInt) (by omega), zz_HMo (a := h0 + 5) w105 (by omega), if_neg (by omega)]) (by intro k hk; omega) (by intro i hi hq; rw [w107, zz_un (by omega), w105, zz_un (by omega)]) hP hS (lv_sub hl [0, 1, 2, 3, 4] rfl)
              · have c106 := zz_eqT c106
                refine lv_iconst (v := 0) hx hb dX9_sheet_84 (by decide) ?_
                refine lv_goto (tgt := 89) hx hb dX9_sheet_85 (by decide) ?_
                refine zz_iast hx hb hK hP hS (g0.2.2.2.2.2.1) (by omega) (by omega) dX9_sheet_89 (fun j113 σ113 H locs q113 r113 w113 hP1 hS1 => ?_)
                replace hP := hP1
                replace hS := hS1
                clear hP1 hS1
                replace hC := hC.u w113 (dS28_9 h0)
                refine lv_iconst (v := 0) hx hb dX9_sheet_90 (by decide) ?_
                refine lv_istore (lv' := [(4, .int 0), (0, .ref h0), (1, .int sh), (2, .int bi), (3, .int nn)]) hx hb dX9_sheet_91 hl (by decide) rfl (fun ls hl => ?_)
                have J93 : ∀ (n : Nat) (ii : Int32) (σa : zz_S) (H : Heap) (locs : List Loc) (ls : Array Slot), ((24 - ii.toInt).toNat) < n → (zz_ch (fun a k => (a = h0 + 3 ∨ (h0 + 7 ≤ a ∧ a ≤ h0 + 11)) ∨ a = h0 + 4 ∨ a = h0 + 5 ∨ a = h0 + 6) σ σa) → (0 ≤ ii.toInt) → (∀ j : Nat, j < 4 → 0 ≤ (σa (h0 + 5) j).toInt ∧ (σa (h0 + 5) j).toInt ≤ 24) → (zz_HM σa (h0 + 4) = zz_wn (zz_HM σ (h0 + 4)) sh.toInt bi.toInt) → (zz_HM σa (h0 + 5) = zz_wn (zz_HM σ (h0 + 5)) sh.toInt (if bi.toInt = 0 then 0 else nn.toInt)) → (∀ k : Nat, (k : Int) < ii.toInt → (σa (h0 + 6) (24 * sh.toInt.toNat + k)).toInt = 0) → (∀ i : Nat, i < 96 → (i < 24 * sh.toInt.toNat ∨ 24 * sh.toInt.toNat + 24 ≤ i) → σa (h0 + 6) i = σ (h0 + 6) i) → zz_P E σa H → va_S (zz_A E) s.heap H locs → lv_has ls 5 [(4, .int ii), (0, .ref h0), (1, .int sh), (2, .int bi), (3, .int nn)] → W p l e (headSpec wzX9_sheet ({ frames := 2, cells := 0, slots := 0, locals := 42 })).room s m args below meth c H locs 0 0 (MQ below (va_Qi (fun r σ1 => zz_ch (fun a k => (a = h0 + 3 ∨ (h0 + 7 ≤ a ∧ a ≤ h0 + 11)) ∨ a = h0 + 4 ∨ a = h0 + 5 ∨ a = h0 + 6) σ σ1 ∧ (zz_IM σ1 h0 ∧ zz_sheet sh.toInt bi.toInt nn.toInt r.toInt ∧ (r.toInt < 0 → zz_HM σ1 (h0 + 4) = zz_HM σ (h0 + 4) ∧ zz_HM σ1 (h0 + 5) = zz_HM σ (h0 + 5) ∧ zz_CM σ1 (h0 + 6) = zz_CM σ (h0 + 6)) ∧ (0 ≤ r.toInt → zz_HM σ1 (h0 + 4) = zz_wn (zz_HM σ (h0 + 4)) sh.toInt bi.toInt ∧ zz_HM σ1 (h0 + 5) = zz_wn (zz_HM σ (h0 + 5)) sh.toInt (if bi.toInt = 0 then 0 else nn.toInt) ∧ zz_CM σ1 (h0 + 6) = zz_cz (zz_CM σ (h0 + 6)) sh.toInt))) (zz_B E) (zz_A E)) args s 0 0 (zz_A E)) (F0 m 93 ls []) := by
                  intro n
                  induction n with
                  | zero => intro ii σa H locs ls hm; exact absurd hm (Nat.not_lt_zero _)
                  | succ n ih93 =>
                    intro ii σa H locs ls hm hC f93_0 f93_1 f93_2 f93_3 f93_4 f93_5 hP hS hl
                    refine lv_iload hx hb dX9_sheet_93 (lv_at hl 0 rfl) ?_
                    refine lv_bipush (v := 24) hx hb dX9_sheet_95 (by decide) ?_
                    refine lv_icmp_ge (tgt := 119) hx hb dX9_sheet_97 (by decide) (fun c114 => ?_) (fun c114 => ?_)
                    · have c114 := zz_leT c114
                      refine lv_iconst (v := 1) hx hb dX9_sheet_119 (by decide) ?_
                      exact zz_iret hx hb hr hlocks hK hP hS dX9_sheet_120 (by exact ⟨hC, ⟨hJ.1.keep (fun k => hC _ _ (by first | (dsimp only; omega) | omega)), hJ.2.1.keep (fun k => hC _ _ (by first | (dsimp only; omega) | omega)), f93_1, (by rw [hC _ _ (by first | (dsimp only; omega) | omega)]; exact htr)⟩, (by unfold zz_sheet; omega), (fun q => absurd q (by omega)), (fun _ => ⟨f93_2, f93_3, zz_CM.cz (j0 := sh.toInt.toNat) (by omega) (by omega) (fun k hk => f93_4 k (by omega)) (fun i hi hq => f93_5 i hi (by omega))⟩)⟩)
                    · have c114 := zz_nleT c114
                      refine lv_aload_n hx hb dX9_sheet_100 rfl (lv_at hl 1 rfl) ?_
                      refine zz_getr hx hb hts hi9 hown hK hP (g0.1) rfl 6 (by decide) (hts (.fieldLink RX9 25 "NoonLawModel" "cells" "[I") (List.mem_cons_of_mem _ bm_98)) rfl rfl dX9_sheet_101 ?_
                      refine lv_bipush (v := 24) hx hb dX9_sheet_104 (by decide) ?_
                      refine lv_iload_n hx hb dX9_sheet_106 rfl (lv_at hl 2 rfl) ?_
                      refine lv_imul hx hb dX9_sheet_107 ?_
                      refine lv_topi (fun n115 e115 => ?_)
                      have f115 : n115.toInt = 24 * (sh).toInt := zz_mulL 24 e115 (by decide) (by omega) (by omega)
                      refine lv_iload hx hb dX9_sheet_108 (lv_at hl 0 rfl) ?_
                      refine lv_iadd hx hb dX9_sheet_110 ?_
                      refine lv_topi (fun n116 e116 => ?_)
                      have f116 : n116.toInt = (n115).toInt + (ii).toInt := zz_addT e116 (by omega) (by omega)
                      refine lv_iconst (v := 0) hx hb dX9_sheet_111 (by decide) ?_
                      refine zz_iast hx hb hK hP hS (g0.2.2.2.2.2.2.1) (by omega) (by omega) dX9_sheet_112 (fun j117 σ117 H locs q117 r117 w117 hP1 hS1 => ?_)
                      replace hP := hP1
                      replace hS := hS1
                      clear hP1 hS1
                      replace hC := hC.u w117 (dS28_10 h0)
                      obtain ⟨n118, e118⟩ : ∃ y : Int32, y = ii + 1 := ⟨_, rfl⟩
                      have f118 : n118.toInt = (ii).toInt + (1) := by have h9 := zz_addT e118 (by omega) (by omega); omega
                      refine lv_iinc (v := n118) (lv' := [(4, .int n118), (0, .ref h0), (1, .int sh), (2, .int bi), (3, .int nn)]) hx hb dX9_sheet_113 hl (k := 0) rfl (by rw [e118]; rfl) (by decide) rfl (fun ls hl => ?_)
                      refine lv_goto (tgt := 93) hx hb dX9_sheet_116 (by decide) ?_
                      exact ih93 n118 σ117 _ _ _ (by omega) hC (by first | omega | exact hI | exact hT) (by intro j hj; rw [w117, zz_un (by omega)]; exact f93_1 j hj) (by rw [zz_HMo (a := h0 + 4) w117 (by omega)]; exact f93_2) (by rw [zz_HMo (a := h0 + 5) w117 (by omega)]; exact f93_3) (by intro k hk; exact if hq : 24 * sh.toInt.toNat + k = j117 then (by rw [hq, w117, zz_us]; exact k_0) else (by rw [w117, zz_un (by omega)]; exact f93_4 k (by omega))) (by intro i hi hq; rw [w117, zz_un (by omega)]; exact f93_5 i hi hq) hP hS (lv_sub hl [0, 1, 2, 3, 4] rfl)
                exact J93 _ 0 σ113 _ _ _ (Nat.lt_succ_self _) hC (by first | omega | exact hI | exact hT) (by intro j hj; exact if hq : j = j113 then (by rw [hq, w113, zz_us]; omega) else (by rw [w113, zz_un (by omega), w105, zz_un (by omega)]; exact hz5 j hj)) (by rw [zz_HMo (a := h0 + 4) w113 (by omega), zz_HMw w105 (by omega : (j105 : Int) = sh.toInt) (by omega)]) (by rw [zz_HMw w113 (by omega : (j113 : Int) = sh.toInt) (by omega), zz_HMo (a := h0 + 5) w105 (by omega), if_pos (by omega), k_0]) (by intro k hk; omega) (by intro i hi hq; rw [w113, zz_un (by omega), w105, zz_un (by omega)]) hP hS (lv_sub hl [0, 1, 2, 3, 4] rfl)
            · have c104 := zz_nleT c104
              refine lv_iload_n hx hb dX9_sheet_55 rfl (lv_at hl 3 rfl) ?_
              refine lv_bipush (v := 24) hx hb dX9_sheet_56 (by decide) ?_
              refine lv_icmp_le (tgt := 68) hx hb dX9_sheet_58 (by decide) (fun c119 => ?_) (fun c119 => ?_)
              · have c119 := zz_leT c119
                refine lv_aload_n hx hb dX9_sheet_68 rfl (lv_at hl 0 rfl) ?_
                refine zz_getr hx hb hts hi9 hown hK hP (g0.1) rfl 4 (by decide) (hts (.fieldLink RX9 19 "NoonLawModel" "bitsOf" "[I") (List.mem_cons_of_mem _ bm_96)) rfl rfl dX9_sheet_69 ?_
                refine lv_iload_n hx hb dX9_sheet_72 rfl (lv_at hl 1 rfl) ?_
                refine lv_iload_n hx hb dX9_sheet_73 rfl (lv_at hl 2 rfl) ?_
                refine zz_iast hx hb hK hP hS (g0.2.2.2.2.1) (by omega) (by omega) dX9_sheet_74 (fun j120 σ120 H locs q120 r120 w120 hP1 hS1 => ?_)
                replace hP := hP1
                replace hS := hS1
                clear hP1 hS1
                replace hC := hC.u w120 (dS28_8 h0)
                refine lv_aload_n hx hb dX9_sheet_75 rfl (lv_at hl 0 rfl) ?_
                refine zz_getr hx hb hts hi9 hown hK hP (g0.1) rfl 5 (by decide) (hts (.fieldLink RX9 22 "NoonLawModel" "sizeOf" "[I") (List.mem_cons_of_mem _ bm_97)) rfl rfl dX9_sheet_76 ?_
                refine lv_iload_n hx hb dX9_sheet_79 rfl (lv_at hl 1 rfl) ?_
                refine lv_iload_n hx hb dX9_sheet_80 rfl (lv_at hl 2 rfl) ?_
                refine lv_if_ne (tgt := 88) hx hb dX9_sheet_81 (by decide) (fun c121 => ?_) (fun c121 => ?_)
                · have c121 := zz_neT c121
                  refine lv_iload_n hx hb dX9_sheet_88 rfl (lv_at hl 3 rfl) ?_
                  refine zz_iast hx hb hK hP hS (g0.2.2.2.2.2.1) (by omega) (by omega) dX9_sheet_89 (fun j122 σ122 H locs q122 r122 w122 hP1 hS1 => ?_)
                  replace hP := hP1
                  replace hS := hS1
                  clear hP1 hS1
                  replace hC := hC.u w122 (dS28_9 h0)
                  refine lv_iconst (v := 0) hx hb dX9_sheet_90 (by decide) ?_
                  refine lv_istore (lv' := [(4, .int 0), (0, .ref h0), (1, .int sh), (2, .int bi), (3, .int nn)]) hx hb dX9_sheet_91 hl (by decide) rfl (fun ls hl => ?_)
                  have J93 : ∀ (n : Nat) (ii : Int32) (σa : zz_S) (H : Heap) (locs : List Loc) (ls : Array Slot), ((24 - ii.toInt).toNat) < n → (zz_ch (fun a k => (a = h0 + 3 ∨ (h0 + 7 ≤ a ∧ a ≤ h0 + 11)) ∨ a = h0 + 4 ∨ a = h0 + 5 ∨ a = h0 + 6) σ σa) → (0 ≤ ii.toInt) → (∀ j : Nat, j < 4 → 0 ≤ (σa (h0 + 5) j).toInt ∧ (σa (h0 + 5) j).toInt ≤ 24) → (zz_HM σa (h0 + 4) = zz_wn (zz_HM σ (h0 + 4)) sh.toInt bi.toInt) → (zz_HM σa (h0 + 5) = zz_wn (zz_HM σ (h0 + 5)) sh.toInt (if bi.toInt = 0 then 0 else nn.toInt)) → (∀ k : Nat, (k : Int) < ii.toInt → (σa (h0 + 6) (24 * sh.toInt.toNat + k)).toInt = 0) → (∀ i : Nat, i < 96 → (i < 24 * sh.toInt.toNat ∨ 24 * sh.toInt.toNat + 24 ≤ i) → σa (h0 + 6) i = σ (h0 + 6) i) → zz_P E σa H → va_S (zz_A E) s.heap H locs → lv_has ls 5 [(4, .int ii), (0, .ref h0), (1, .int sh), (2, .int bi), (3, .int nn)] → W p l e (headSpec wzX9_sheet ({ frames := 2, cells := 0, slots := 0, locals := 42 })).room s m args below meth c H locs 0 0 (MQ below (va_Qi (fun r σ1 => zz_ch (fun a k => (a = h0 + 3 ∨ (h0 + 7 ≤ a ∧ a ≤ h0 + 11)) ∨ a = h0 + 4 ∨ a = h0 + 5 ∨ a = h0 + 6) σ σ1 ∧ (zz_IM σ1 h0 ∧ zz_sheet sh.toInt bi.toInt nn.toInt r.toInt ∧ (r.toInt < 0 → zz_HM σ1 (h0 + 4) = zz_HM σ (h0 + 4) ∧ zz_HM σ1 (h0 + 5) = zz_HM σ (h0 + 5) ∧ zz_CM σ1 (h0 + 6) = zz_CM σ (h0 + 6)) ∧ (0 ≤ r.toInt → zz_HM σ1 (h0 + 4) = zz_wn (zz_HM σ (h0 + 4)) sh.toInt bi.toInt ∧ zz_HM σ1 (h0 + 5) = zz_wn (zz_HM σ (h0 + 5)) sh.toInt (if bi.toInt = 0 then 0 else nn.toInt) ∧ zz_CM σ1 (h0 + 6) = zz_cz (zz_CM σ (h0 + 6)) sh.toInt))) (zz_B E) (zz_A E)) args s 0 0 (zz_A E)) (F0 m 93 ls []) := by
                    intro n
                    induction n with
                    | zero => intro ii σa H locs ls hm; exact absurd hm (Nat.not_lt_zero _)
                    | succ n ih93 =>
                      intro ii σa H locs ls hm hC f93_0 f93_1 f93_2 f93_3 f93_4 f93_5 hP hS hl
                      refine lv_iload hx hb dX9_sheet_93 (lv_at hl 0 rfl) ?_
                      refine lv_bipush (v := 24) hx hb dX9_sheet_95 (by decide) ?_
                      refine lv_icmp_ge (tgt := 119) hx hb dX9_sheet_97 (by decide) (fun c123 => ?_) (fun c123 => ?_)
                      · have c123 := zz_leT c123
                        refine lv_iconst (v := 1) hx hb dX9_sheet_119 (by decide) ?_
                        exact zz_iret hx hb hr hlocks hK hP hS dX9_sheet_120 (by exact ⟨hC, ⟨hJ.1.keep (fun k => hC _ _ (by first | (dsimp only; omega) | omega)), hJ.2.1.keep (fun k => hC _ _ (by first | (dsimp only; omega) | omega)), f93_1, (by rw [hC _ _ (by first | (dsimp only; omega) | omega)]; exact htr)⟩, (by unfold zz_sheet; omega), (fun q => absurd q (by omega)), (fun _ => ⟨f93_2, f93_3, zz_CM.cz (j0 := sh.toInt.toNat) (by omega) (by omega) (fun k hk => f93_4 k (by omega)) (fun i hi hq => f93_5 i hi (by omega))⟩)⟩)
                      · have c123 := zz_nleT c123
                        refine lv_aload_n hx hb dX9_sheet_100 rfl (lv_at hl 1 rfl) ?_
                        refine zz_getr hx hb hts hi9 hown hK hP (g0.1) rfl 6 (by decide) (hts (.fieldLink RX9 25 "NoonLawModel" "cells" "[I") (List.mem_cons_of_mem _ bm_98)) rfl rfl dX9_sheet_101 ?_
                        refine lv_bipush (v := 24) hx hb dX9_sheet_104 (by decide) ?_
                        refine lv_iload_n hx hb dX9_sheet_106 rfl (lv_at hl 2 rfl) ?_
                        refine lv_imul hx hb dX9_sheet_107 ?_
                        refine lv_topi (fun n124 e124 => ?_)
                        have f124 : n124.toInt = 24 * (sh).toInt := zz_mulL 24 e124 (by decide) (by omega) (by omega)
                        refine lv_iload hx hb dX9_sheet_108 (lv_at hl 0 rfl) ?_
                        refine lv_iadd hx hb dX9_sheet_110 ?_
                        refine lv_topi (fun n125 e125 => ?_)
                        have f125 : n125.toInt = (n124).toInt + (ii).toInt := zz_addT e125 (by omega) (by omega)
                        refine lv_iconst (v := 0) hx hb dX9_sheet_111 (by decide) ?_
                        refine zz_iast hx hb hK hP hS (g0.2.2.2.2.2.2.1) (by omega) (by omega) dX9_sheet_112 (fun j126 σ126 H locs q126 r126 w126 hP1 hS1 => ?_)
                        replace hP := hP1
                        replace hS := hS1
                        clear hP1 hS1
                        replace hC := hC.u w126 (dS28_10 h0)
                        obtain ⟨n127, e127⟩ : ∃ y : Int32, y = ii + 1 := ⟨_, rfl⟩
                        have f127 : n127.toInt = (ii).toInt + (1) := by have h9 := zz_addT e127 (by omega) (by omega); omega
                        refine lv_iinc (v := n127) (lv' := [(4, .int n127), (0, .ref h0), (1, .int sh), (2, .int bi), (3, .int nn)]) hx hb dX9_sheet_113 hl (k := 0) rfl (by rw [e127]; rfl) (by decide) rfl (fun ls hl => ?_)
                        refine lv_goto (tgt := 93) hx hb dX9_sheet_116 (by decide) ?_
                        exact ih93 n127 σ126 _ _ _ (by omega) hC (by first | omega | exact hI | exact hT) (by intro j hj; rw [w126, zz_un (by omega)]; exact f93_1 j hj) (by rw [zz_HMo (a := h0 + 4) w126 (by omega)]; exact f93_2) (by rw [zz_HMo (a := h0 + 5) w126 (by omega)]; exact f93_3) (by intro k hk; exact if hq : 24 * sh.toInt.toNat + k = j126 then (by rw [hq, w126, zz_us]; exact k_0) else (by rw [w126, zz_un (by omega)]; exact f93_4 k (by omega))) (by intro i hi hq; rw [w126, zz_un (by omega)]; exact f93_5 i hi hq) hP hS (lv_sub hl [0, 1, 2, 3, 4] rfl)
                  exact J93 _ 0 σ122 _ _ _ (Nat.lt_succ_self _) hC (by first | omega | exact hI | exact hT) (by intro j hj; exact if hq : j = j122 then (by rw [hq, w122, zz_us]; omega) else (by rw [w122, zz_un (by omega), w120, zz_un (by omega)]; exact hz5 j hj)) (by rw [zz_HMo (a := h0 + 4) w122 (by omega), zz_HMw w120 (by omega : (j120 : Int) = sh.toInt) (by omega)]) (by rw [zz_HMw w122 (by omega : (j122 : Int) = sh.toInt) (by omega), zz_HMo (a := h0 + 5) w120 (by omega), if_neg (by omega)]) (by intro k hk; omega) (by intro i hi hq; rw [w122, zz_un (by omega), w120, zz_un (by omega)]) hP hS (lv_sub hl [0, 1, 2, 3, 4] rfl)
                · have c121 := zz_eqT c121
                  refine lv_iconst (v := 0) hx hb dX9_sheet_84 (by decide) ?_
                  refine lv_goto (tgt := 89) hx hb dX9_sheet_85 (by decide) ?_
                  refine zz_iast hx hb hK hP hS (g0.2.2.2.2.2.1) (by omega) (by omega) dX9_sheet_89 (fun j128 σ128 H locs q128 r128 w128 hP1 hS1 => ?_)
                  replace hP := hP1
                  replace hS := hS1
                  clear hP1 hS1
                  replace hC := hC.u w128 (dS28_9 h0)
                  refine lv_iconst (v := 0) hx hb dX9_sheet_90 (by decide) ?_
                  refine lv_istore (lv' := [(4, .int 0), (0, .ref h0), (1, .int sh), (2, .int bi), (3, .int nn)]) hx hb dX9_sheet_91 hl (by decide) rfl (fun ls hl => ?_)
                  have J93 : ∀ (n : Nat) (ii : Int32) (σa : zz_S) (H : Heap) (locs : List Loc) (ls : Array Slot), ((24 - ii.toInt).toNat) < n → (zz_ch (fun a k => (a = h0 + 3 ∨ (h0 + 7 ≤ a ∧ a ≤ h0 + 11)) ∨ a = h0 + 4 ∨ a = h0 + 5 ∨ a = h0 + 6) σ σa) → (0 ≤ ii.toInt) → (∀ j : Nat, j < 4 → 0 ≤ (σa (h0 + 5) j).toInt ∧ (σa (h0 + 5) j).toInt ≤ 24) → (zz_HM σa (h0 + 4) = zz_wn (zz_HM σ (h0 + 4)) sh.toInt bi.toInt) → (zz_HM σa (h0 + 5) = zz_wn (zz_HM σ (h0 + 5)) sh.toInt (if bi.toInt = 0 then 0 else nn.toInt)) → (∀ k : Nat, (k : Int) < ii.toInt → (σa (h0 + 6) (24 * sh.toInt.toNat + k)).toInt = 0) → (∀ i : Nat, i < 96 → (i < 24 * sh.toInt.toNat ∨ 24 * sh.toInt.toNat + 24 ≤ i) → σa (h0 + 6) i = σ (h0 + 6) i) → zz_P E σa H → va_S (zz_A E) s.heap H locs → lv_has ls 5 [(4, .int ii), (0, .ref h0), (1, .int sh), (2, .int bi), (3, .int nn)] → W p l e (headSpec wzX9_sheet ({ frames := 2, cells := 0, slots := 0, locals := 42 })).room s m args below meth c H locs 0 0 (MQ below (va_Qi (fun r σ1 => zz_ch (fun a k => (a = h0 + 3 ∨ (h0 + 7 ≤ a ∧ a ≤ h0 + 11)) ∨ a = h0 + 4 ∨ a = h0 + 5 ∨ a = h0 + 6) σ σ1 ∧ (zz_IM σ1 h0 ∧ zz_sheet sh.toInt bi.toInt nn.toInt r.toInt ∧ (r.toInt < 0 → zz_HM σ1 (h0 + 4) = zz_HM σ (h0 + 4) ∧ zz_HM σ1 (h0 + 5) = zz_HM σ (h0 + 5) ∧ zz_CM σ1 (h0 + 6) = zz_CM σ (h0 + 6)) ∧ (0 ≤ r.toInt → zz_HM σ1 (h0 + 4) = zz_wn (zz_HM σ (h0 + 4)) sh.toInt bi.toInt ∧ zz_HM σ1 (h0 + 5) = zz_wn (zz_HM σ (h0 + 5)) sh.toInt (if bi.toInt = 0 then 0 else nn.toInt) ∧ zz_CM σ1 (h0 + 6) = zz_cz (zz_CM σ (h0 + 6)) sh.toInt))) (zz_B E) (zz_A E)) args s 0 0 (zz_A E)) (F0 m 93 ls []) := by
                    intro n
                    induction n with
                    | zero => intro ii σa H locs ls hm; exact absurd hm (Nat.not_lt_zero _)
                    | succ n ih93 =>
                      intro ii σa H locs ls hm hC f93_0 f93_1 f93_2 f93_3 f93_4 f93_5 hP hS hl
                      refine lv_iload hx hb dX9_sheet_93 (lv_at hl 0 rfl) ?_
                      refine lv_bipush (v := 24) hx hb dX9_sheet_95 (by decide) ?_
                      refine lv_icmp_ge (tgt := 119) hx hb dX9_sheet_97 (by decide) (fun c129 => ?_) (fun c129 => ?_)
                      · have c129 := zz_leT c129
                        refine lv_iconst (v := 1) hx hb dX9_sheet_119 (by decide) ?_
                        exact zz_iret hx hb hr hlocks hK hP hS dX9_sheet_120 (by exact ⟨hC, ⟨hJ.1.keep (fun k => hC _ _ (by first | (dsimp only; omega) | omega)), hJ.2.1.keep (fun k => hC _ _ (by first | (dsimp only; omega) | omega)), f93_1, (by rw [hC _ _ (by first | (dsimp only; omega) | omega)]; exact htr)⟩, (by unfold zz_sheet; omega), (fun q => absurd q (by omega)), (fun _ => ⟨f93_2, f93_3, zz_CM.cz (j0 := sh.toInt.toNat) (by omega) (by omega) (fun k hk => f93_4 k (by omega)) (fun i hi hq => f93_5 i hi (by omega))⟩)⟩)
                      · have c129 := zz_nleT c129
                        refine lv_aload_n hx hb dX9_sheet_100 rfl (lv_at hl 1 rfl) ?_
                        refine zz_getr hx hb hts hi9 hown hK hP (g0.1) rfl 6 (by decide) (hts (.fieldLink RX9 25 "NoonLawModel" "cells" "[I") (List.mem_cons_of_mem _ bm_98)) rfl rfl dX9_sheet_101 ?_
                        refine lv_bipush (v := 24) hx hb dX9_sheet_104 (by decide) ?_
                        refine lv_iload_n hx hb dX9_sheet_106 rfl (lv_at hl 2 rfl) ?_
                        refine lv_imul hx hb dX9_sheet_107 ?_
                        refine lv_topi (fun n130 e130 => ?_)
                        have f130 : n130.toInt = 24 * (sh).toInt := zz_mulL 24 e130 (by decide) (by omega) (by omega)
                        refine lv_iload hx hb dX9_sheet_108 (lv_at hl 0 rfl) ?_
                        refine lv_iadd hx hb dX9_sheet_110 ?_
                        refine lv_topi (fun n131 e131 => ?_)
                        have f131 : n131.toInt = (n130).toInt + (ii).toInt := zz_addT e131 (by omega) (by omega)
                        refine lv_iconst (v := 0) hx hb dX9_sheet_111 (by decide) ?_
                        refine zz_iast hx hb hK hP hS (g0.2.2.2.2.2.2.1) (by omega) (by omega) dX9_sheet_112 (fun j132 σ132 H locs q132 r132 w132 hP1 hS1 => ?_)
                        replace hP := hP1
                        replace hS := hS1
                        clear hP1 hS1
                        replace hC := hC.u w132 (dS28_10 h0)
                        obtain ⟨n133, e133⟩ : ∃ y : Int32, y = ii + 1 := ⟨_, rfl⟩
                        have f133 : n133.toInt = (ii).toInt + (1) := by have h9 := zz_addT e133 (by omega) (by omega); omega
                        refine lv_iinc (v := n133) (lv' := [(4, .int n133), (0, .ref h0), (1, .int sh), (2, .int bi), (3, .int nn)]) hx hb dX9_sheet_113 hl (k := 0) rfl (by rw [e133]; rfl) (by decide) rfl (fun ls hl => ?_)
                        refine lv_goto (tgt := 93) hx hb dX9_sheet_116 (by decide) ?_
                        exact ih93 n133 σ132 _ _ _ (by omega) hC (by first | omega | exact hI | exact hT) (by intro j hj; rw [w132, zz_un (by omega)]; exact f93_1 j hj) (by rw [zz_HMo (a := h0 + 4) w132 (by omega)]; exact f93_2) (by rw [zz_HMo (a := h0 + 5) w132 (by omega)]; exact f93_3) (by intro k hk; exact if hq : 24 * sh.toInt.toNat + k = j132 then (by rw [hq, w132, zz_us]; exact k_0) else (by rw [w132, zz_un (by omega)]; exact f93_4 k (by omega))) (by intro i hi hq; rw [w132, zz_un (by omega)]; exact f93_5 i hi hq) hP hS (lv_sub hl [0, 1, 2, 3, 4] rfl)
                  exact J93 _ 0 σ128 _ _ _ (Nat.lt_succ_self _) hC (by first | omega | exact hI | exact hT) (by intro j hj; exact if hq : j = j128 then (by rw [hq, w128, zz_us]; omega) else (by rw [w128, zz_un (by omega), w120, zz_un (by omega)]; exact hz5 j hj)) (by rw [zz_HMo (a := h0 + 4) w128 (by omega), zz_HMw w120 (by omega : (j120 : Int) = sh.toInt) (by omega)]) (by rw [zz_HMw w128 (by omega : (j128 : Int) = sh.toInt) (by omega), zz_HMo (a := h0 + 5) w120 (by omega), if_pos (by omega), k_0]) (by intro k hk; omega) (by intro i hi hq; rw [w128, zz_un (by omega), w120, zz_un (by omega)]) hP hS (lv_sub hl [0, 1, 2, 3, 4] rfl)
              · have c119 := zz_nleT c119
                refine lv_aload_n hx hb dX9_sheet_61 rfl (lv_at hl 0 rfl) ?_
                refine lv_ldc (v := (-1000000001)) hx hb hown (hts (.constant RX9 93 (-1000000001)) (List.mem_cons_of_mem _ bm_138)) dX9_sheet_62 ?_
                refine zz_callVi (As := [.int (-1000000001)]) (rest := []) ⟨hx, hb, hml, hown, hts⟩ hK hP hS (c_X9_error l E σ h0 (-1000000001) g0 (by omega)) (cwV 1 hts gX9_sheet_X9_error rfl rfl rfl (by decide +kernel) ⟨Nat.le_of_ble_eq_true rfl, Nat.le_of_ble_eq_true rfl⟩) (g0.1) rfl rfl hl.1 rfl (Nat.le_of_ble_eq_true rfl) dX9_sheet_64 ⟨Nat.zero_le _, Nat.zero_le _⟩ (fun r134 σ134 H locs q134 hP1 hS1 => ?_)
                replace hP := hP1
                replace hS := hS1
                clear hP1 hS1
                try dsimp only at q134
                obtain ⟨w134, f134⟩ := q134
                replace hC := hC.tr (w134.mono (dS28_7 h0))
                exact zz_iret hx hb hr hlocks hK hP hS dX9_sheet_67 (by exact ⟨hC, (hJ.soft (w134.mono (by intro a k h; omega))), (by unfold zz_sheet; omega), (fun _ => ⟨zz_HM.eq (fun j hj => w134 _ _ (by first | (dsimp only; omega) | omega)), zz_HM.eq (fun j hj => w134 _ _ (by first | (dsimp only; omega) | omega)), zz_CM.eq (fun k hk => w134 _ _ (by first | (dsimp only; omega) | omega))⟩), (fun q => absurd q (by omega))⟩)
          · have c103 := zz_nleT c103
            refine lv_aload_n hx hb dX9_sheet_44 rfl (lv_at hl 0 rfl) ?_
            refine lv_ldc (v := (-1000000003)) hx hb hown (hts (.constant RX9 178 (-1000000003)) (List.mem_cons_of_mem _ bm_592)) dX9_sheet_45 ?_
            refine zz_callVi (As := [.int (-1000000003)]) (rest := []) ⟨hx, hb, hml, hown, hts⟩ hK hP hS (c_X9_error l E σ h0 (-1000000003) g0 (by omega)) (cwV 1 hts gX9_sheet_X9_error rfl rfl rfl (by decide +kernel) ⟨Nat.le_of_ble_eq_true rfl, Nat.le_of_ble_eq_true rfl⟩) (g0.1) rfl rfl hl.1 rfl (Nat.le_of_ble_eq_true rfl) dX9_sheet_47 ⟨Nat.zero_le _, Nat.zero_le _⟩ (fun r135 σ135 H locs q135 hP1 hS1 => ?_)
            replace hP := hP1
            replace hS := hS1
            clear hP1 hS1
            try dsimp only at q135
            obtain ⟨w135, f135⟩ := q135
            replace hC := hC.tr (w135.mono (dS28_7 h0))
            exact zz_iret hx hb hr hlocks hK hP hS dX9_sheet_50 (by exact ⟨hC, (hJ.soft (w135.mono (by intro a k h; omega))), (by unfold zz_sheet; omega), (fun _ => ⟨zz_HM.eq (fun j hj => w135 _ _ (by first | (dsimp only; omega) | omega)), zz_HM.eq (fun j hj => w135 _ _ (by first | (dsimp only; omega) | omega)), zz_CM.eq (fun k hk => w135 _ _ (by first | (dsimp only; omega) | omega))⟩), (fun q => absurd q (by omega))⟩)
      · have c70 := zz_neT c70
        refine lv_iload_n hx hb dX9_sheet_17 rfl (lv_at hl 2 rfl) ?_
        refine lv_bipush (v := 16) hx hb dX9_sheet_18 (by decide) ?_
        refine lv_icmp_eq (tgt := 36) hx hb dX9_sheet_20 (by decide) (fun c136 => ?_) (fun c136 => ?_)
        · have c136 := zz_eqT c136
          refine lv_iload_n hx hb dX9_sheet_36 rfl (lv_at hl 2 rfl) ?_
          refine lv_if_le (tgt := 51) hx hb dX9_sheet_37 (by decide) (fun c137 => ?_) (fun c137 => ?_)
          · have c137 := zz_leT c137
            refine lv_iload_n hx hb dX9_sheet_51 rfl (lv_at hl 2 rfl) ?_
            refine lv_if_le (tgt := 68) hx hb dX9_sheet_52 (by decide) (fun c138 => ?_) (fun c138 => ?_)
            · have c138 := zz_leT c138
              refine lv_aload_n hx hb dX9_sheet_68 rfl (lv_at hl 0 rfl) ?_
              refine zz_getr hx hb hts hi9 hown hK hP (g0.1) rfl 4 (by decide) (hts (.fieldLink RX9 19 "NoonLawModel" "bitsOf" "[I") (List.mem_cons_of_mem _ bm_96)) rfl rfl dX9_sheet_69 ?_
              refine lv_iload_n hx hb dX9_sheet_72 rfl (lv_at hl 1 rfl) ?_
              refine lv_iload_n hx hb dX9_sheet_73 rfl (lv_at hl 2 rfl) ?_
              refine zz_iast hx hb hK hP hS (g0.2.2.2.2.1) (by omega) (by omega) dX9_sheet_74 (fun j139 σ139 H locs q139 r139 w139 hP1 hS1 => ?_)
              replace hP := hP1
              replace hS := hS1
              clear hP1 hS1
              replace hC := hC.u w139 (dS28_8 h0)
              refine lv_aload_n hx hb dX9_sheet_75 rfl (lv_at hl 0 rfl) ?_
              refine zz_getr hx hb hts hi9 hown hK hP (g0.1) rfl 5 (by decide) (hts (.fieldLink RX9 22 "NoonLawModel" "sizeOf" "[I") (List.mem_cons_of_mem _ bm_97)) rfl rfl dX9_sheet_76 ?_
              refine lv_iload_n hx hb dX9_sheet_79 rfl (lv_at hl 1 rfl) ?_
              refine lv_iload_n hx hb dX9_sheet_80 rfl (lv_at hl 2 rfl) ?_
              refine lv_if_ne (tgt := 88) hx hb dX9_sheet_81 (by decide) (fun c140 => ?_) (fun c140 => ?_)
              · have c140 := zz_neT c140
                refine lv_iload_n hx hb dX9_sheet_88 rfl (lv_at hl 3 rfl) ?_
                refine zz_iast hx hb hK hP hS (g0.2.2.2.2.2.1) (by omega) (by omega) dX9_sheet_89 (fun j141 σ141 H locs q141 r141 w141 hP1 hS1 => ?_)
                replace hP := hP1
                replace hS := hS1
                clear hP1 hS1
                replace hC := hC.u w141 (dS28_9 h0)
                refine lv_iconst (v := 0) hx hb dX9_sheet_90 (by decide) ?_
                refine lv_istore (lv' := [(4, .int 0), (0, .ref h0), (1, .int sh), (2, .int bi), (3, .int nn)]) hx hb dX9_sheet_91 hl (by decide) rfl (fun ls hl => ?_)
                have J93 : ∀ (n : Nat) (ii : Int32) (σa : zz_S) (H : Heap) (locs : List Loc) (ls : Array Slot), ((24 - ii.toInt).toNat) < n → (zz_ch (fun a k => (a = h0 + 3 ∨ (h0 + 7 ≤ a ∧ a ≤ h0 + 11)) ∨ a = h0 + 4 ∨ a = h0 + 5 ∨ a = h0 + 6) σ σa) → (0 ≤ ii.toInt) → (∀ j : Nat, j < 4 → 0 ≤ (σa (h0 + 5) j).toInt ∧ (σa (h0 + 5) j).toInt ≤ 24) → (zz_HM σa (h0 + 4) = zz_wn (zz_HM σ (h0 + 4)) sh.toInt bi.toInt) → (zz_HM σa (h0 + 5) = zz_wn (zz_HM σ (h0 + 5)) sh.toInt (if bi.toInt = 0 then 0 else nn.toInt)) → (∀ k : Nat, (k : Int) < ii.toInt → (σa (h0 + 6) (24 * sh.toInt.toNat + k)).toInt = 0) → (∀ i : Nat, i < 96 → (i < 24 * sh.toInt.toNat ∨ 24 * sh.toInt.toNat + 24 ≤ i) → σa (h0 + 6) i = σ (h0 + 6) i) → zz_P E σa H → va_S (zz_A E) s.heap H locs → lv_has ls 5 [(4, .int ii), (0, .ref h0), (1, .int sh), (2, .int bi), (3, .int nn)] → W p l e (headSpec wzX9_sheet ({ frames := 2, cells := 0, slots := 0, locals := 42 })).room s m args below meth c H locs 0 0 (MQ below (va_Qi (fun r σ1 => zz_ch (fun a k => (a = h0 + 3 ∨ (h0 + 7 ≤ a ∧ a ≤ h0 + 11)) ∨ a = h0 + 4 ∨ a = h0 + 5 ∨ a = h0 + 6) σ σ1 ∧ (zz_IM σ1 h0 ∧ zz_sheet sh.toInt bi.toInt nn.toInt r.toInt ∧ (r.toInt < 0 → zz_HM σ1 (h0 + 4) = zz_HM σ (h0 + 4) ∧ zz_HM σ1 (h0 + 5) = zz_HM σ (h0 + 5) ∧ zz_CM σ1 (h0 + 6) = zz_CM σ (h0 + 6)) ∧ (0 ≤ r.toInt → zz_HM σ1 (h0 + 4) = zz_wn (zz_HM σ (h0 + 4)) sh.toInt bi.toInt ∧ zz_HM σ1 (h0 + 5) = zz_wn (zz_HM σ (h0 + 5)) sh.toInt (if bi.toInt = 0 then 0 else nn.toInt) ∧ zz_CM σ1 (h0 + 6) = zz_cz (zz_CM σ (h0 + 6)) sh.toInt))) (zz_B E) (zz_A E)) args s 0 0 (zz_A E)) (F0 m 93 ls []) := by
                  intro n
                  induction n with
                  | zero => intro ii σa H locs ls hm; exact absurd hm (Nat.not_lt_zero _)
                  | succ n ih93 =>
                    intro ii σa H locs ls hm hC f93_0 f93_1 f93_2 f93_3 f93_4 f93_5 hP hS hl
                    refine lv_iload hx hb dX9_sheet_93 (lv_at hl 0 rfl) ?_
                    refine lv_bipush (v := 24) hx hb dX9_sheet_95 (by decide) ?_
                    refine lv_icmp_ge (tgt := 119) hx hb dX9_sheet_97 (by decide) (fun c142 => ?_) (fun c142 => ?_)
                    · have c142 := zz_leT c142
                      refine lv_iconst (v := 1) hx hb dX9_sheet_119 (by decide) ?_
                      exact zz_iret hx hb hr hlocks hK hP hS dX9_sheet_120 (by exact ⟨hC, ⟨hJ.1.keep (fun k => hC _ _ (by first | (dsimp only; omega) | omega)), hJ.2.1.keep (fun k => hC _ _ (by first | (dsimp only; omega) | omega)), f93_1, (by rw [hC _ _ (by first | (dsimp only; omega) | omega)]; exact htr)⟩, (by unfold zz_sheet; omega), (fun q => absurd q (by omega)), (fun _ => ⟨f93_2, f93_3, zz_CM.cz (j0 := sh.toInt.toNat) (by omega) (by omega) (fun k hk => f93_4 k (by omega)) (fun i hi hq => f93_5 i hi (by omega))⟩)⟩)
                    · have c142 := zz_nleT c142
                      refine lv_aload_n hx hb dX9_sheet_100 rfl (lv_at hl 1 rfl) ?_
                      refine zz_getr hx hb hts hi9 hown hK hP (g0.1) rfl 6 (by decide) (hts (.fieldLink RX9 25 "NoonLawModel" "cells" "[I") (List.mem_cons_of_mem _ bm_98)) rfl rfl dX9_sheet_101 ?_
                      refine lv_bipush (v := 24) hx hb dX9_sheet_104 (by decide) ?_
                      refine lv_iload_n hx hb dX9_sheet_106 rfl (lv_at hl 2 rfl) ?_
                      refine lv_imul hx hb dX9_sheet_107 ?_
                      refine lv_topi (fun n143 e143 => ?_)
                      have f143 : n143.toInt = 24 * (sh).toInt := zz_mulL 24 e143 (by decide) (by omega) (by omega)
                      refine lv_iload hx hb dX9_sheet_108 (lv_at hl 0 rfl) ?_
                      refine lv_iadd hx hb dX9_sheet_110 ?_
                      refine lv_topi (fun n144 e144 => ?_)
                      have f144 : n144.toInt = (n143).toInt + (ii).toInt := zz_addT e144 (by omega) (by omega)
                      refine lv_iconst (v := 0) hx hb dX9_sheet_111 (by decide) ?_
                      refine zz_iast hx hb hK hP hS (g0.2.2.2.2.2.2.1) (by omega) (by omega) dX9_sheet_112 (fun j145 σ145 H locs q145 r145 w145 hP1 hS1 => ?_)
                      replace hP := hP1
                      replace hS := hS1
                      clear hP1 hS1
                      replace hC := hC.u w145 (dS28_10 h0)
                      obtain ⟨n146, e146⟩ : ∃ y : Int32, y = ii + 1 := ⟨_, rfl⟩
                      have f146 : n146.toInt = (ii).toInt + (1) := by have h9 := zz_addT e146 (by omega) (by omega); omega
                      refine lv_iinc (v := n146) (lv' := [(4, .int n146), (0, .ref h0), (1, .int sh), (2, .int bi), (3, .int nn)]) hx hb dX9_sheet_113 hl (k := 0) rfl (by rw [e146]; rfl) (by decide) rfl (fun ls hl => ?_)
                      refine lv_goto (tgt := 93) hx hb dX9_sheet_116 (by decide) ?_
                      exact ih93 n146 σ145 _ _ _ (by omega) hC (by first | omega | exact hI | exact hT) (by intro j hj; rw [w145, zz_un (by omega)]; exact f93_1 j hj) (by rw [zz_HMo (a := h0 + 4) w145 (by omega)]; exact f93_2) (by rw [zz_HMo (a := h0 + 5) w145 (by omega)]; exact f93_3) (by intro k hk; exact if hq : 24 * sh.toInt.toNat + k = j145 then (by rw [hq, w145, zz_us]; exact k_0) else (by rw [w145, zz_un (by omega)]; exact f93_4 k (by omega))) (by intro i hi hq; rw [w145, zz_un (by omega)]; exact f93_5 i hi hq) hP hS (lv_sub hl [0, 1, 2, 3, 4] rfl)
                exact J93 _ 0 σ141 _ _ _ (Nat.lt_succ_self _) hC (by first | omega | exact hI | exact hT) (by intro j hj; exact if hq : j = j141 then (by rw [hq, w141, zz_us]; omega) else (by rw [w141, zz_un (by omega), w139, zz_un (by omega)]; exact hz5 j hj)) (by rw [zz_HMo (a := h0 + 4) w141 (by omega), zz_HMw w139 (by omega : (j139 : Int) = sh.toInt) (by omega)]) (by rw [zz_HMw w141 (by omega : (j141 : Int) = sh.toInt) (by omega), zz_HMo (a := h0 + 5) w139 (by omega), if_neg (by omega)]) (by intro k hk; omega) (by intro i hi hq; rw [w141, zz_un (by omega), w139, zz_un (by omega)]) hP hS (lv_sub hl [0, 1, 2, 3, 4] rfl)
              · have c140 := zz_eqT c140
                refine lv_iconst (v := 0) hx hb dX9_sheet_84 (by decide) ?_
                refine lv_goto (tgt := 89) hx hb dX9_sheet_85 (by decide) ?_
                refine zz_iast hx hb hK hP hS (g0.2.2.2.2.2.1) (by omega) (by omega) dX9_sheet_89 (fun j147 σ147 H locs q147 r147 w147 hP1 hS1 => ?_)
                replace hP := hP1
                replace hS := hS1
                clear hP1 hS1
                replace hC := hC.u w147 (dS28_9 h0)
                refine lv_iconst (v := 0) hx hb dX9_sheet_90 (by decide) ?_
                refine lv_istore (lv' := [(4, .int 0), (0, .ref h0), (1, .int sh), (2, .int bi), (3, .int nn)]) hx hb dX9_sheet_91 hl (by decide) rfl (fun ls hl => ?_)
                have J93 : ∀ (n : Nat) (ii : Int32) (σa : zz_S) (H : Heap) (locs : List Loc) (ls : Array Slot), ((24 - ii.toInt).toNat) < n → (zz_ch (fun a k => (a = h0 + 3 ∨ (h0 + 7 ≤ a ∧ a ≤ h0 + 11)) ∨ a = h0 + 4 ∨ a = h0 + 5 ∨ a = h0 + 6) σ σa) → (0 ≤ ii.toInt) → (∀ j : Nat, j < 4 → 0 ≤ (σa (h0 + 5) j).toInt ∧ (σa (h0 + 5) j).toInt ≤ 24) → (zz_HM σa (h0 + 4) = zz_wn (zz_HM σ (h0 + 4)) sh.toInt bi.toInt) → (zz_HM σa (h0 + 5) = zz_wn (zz_HM σ (h0 + 5)) sh.toInt (if bi.toInt = 0 then 0 else nn.toInt)) → (∀ k : Nat, (k : Int) < ii.toInt → (σa (h0 + 6) (24 * sh.toInt.toNat + k)).toInt = 0) → (∀ i : Nat, i < 96 → (i < 24 * sh.toInt.toNat ∨ 24 * sh.toInt.toNat + 24 ≤ i) → σa (h0 + 6) i = σ (h0 + 6) i) → zz_P E σa H → va_S (zz_A E) s.heap H locs → lv_has ls 5 [(4, .int ii), (0, .ref h0), (1, .int sh), (2, .int bi), (3, .int nn)] → W p l e (headSpec wzX9_sheet ({ frames := 2, cells := 0, slots := 0, locals := 42 })).room s m args below meth c H locs 0 0 (MQ below (va_Qi (fun r σ1 => zz_ch (fun a k => (a = h0 + 3 ∨ (h0 + 7 ≤ a ∧ a ≤ h0 + 11)) ∨ a = h0 + 4 ∨ a = h0 + 5 ∨ a = h0 + 6) σ σ1 ∧ (zz_IM σ1 h0 ∧ zz_sheet sh.toInt bi.toInt nn.toInt r.toInt ∧ (r.toInt < 0 → zz_HM σ1 (h0 + 4) = zz_HM σ (h0 + 4) ∧ zz_HM σ1 (h0 + 5) = zz_HM σ (h0 + 5) ∧ zz_CM σ1 (h0 + 6) = zz_CM σ (h0 + 6)) ∧ (0 ≤ r.toInt → zz_HM σ1 (h0 + 4) = zz_wn (zz_HM σ (h0 + 4)) sh.toInt bi.toInt ∧ zz_HM σ1 (h0 + 5) = zz_wn (zz_HM σ (h0 + 5)) sh.toInt (if bi.toInt = 0 then 0 else nn.toInt) ∧ zz_CM σ1 (h0 + 6) = zz_cz (zz_CM σ (h0 + 6)) sh.toInt))) (zz_B E) (zz_A E)) args s 0 0 (zz_A E)) (F0 m 93 ls []) := by
                  intro n
                  induction n with
                  | zero => intro ii σa H locs ls hm; exact absurd hm (Nat.not_lt_zero _)
                  | succ n ih93 =>
                    intro ii σa H locs ls hm hC f93_0 f93_1 f93_2 f93_3 f93_4 f93_5 hP hS hl
                    refine lv_iload hx hb dX9_sheet_93 (lv_at hl 0 rfl) ?_
                    refine lv_bipush (v := 24) hx hb dX9_sheet_95 (by decide) ?_
                    refine lv_icmp_ge (tgt := 119) hx hb dX9_sheet_97 (by decide) (fun c148 => ?_) (fun c148 => ?_)
                    · have c148 := zz_leT c148
                      refine lv_iconst (v := 1) hx hb dX9_sheet_119 (by decide) ?_
                      exact zz_iret hx hb hr hlocks hK hP hS dX9_sheet_120 (by exact ⟨hC, ⟨hJ.1.keep (fun k => hC _ _ (by first | (dsimp only; omega) | omega)), hJ.2.1.keep (fun k => hC _ _ (by first | (dsimp only; omega) | omega)), f93_1, (by rw [hC _ _ (by first | (dsimp only; omega) | omega)]; exact htr)⟩, (by unfold zz_sheet; omega), (fun q => absurd q (by omega)), (fun _ => ⟨f93_2, f93_3, zz_CM.cz (j0 := sh.toInt.toNat) (by omega) (by omega) (fun k hk => f93_4 k (by omega)) (fun i hi hq => f93_5 i hi (by omega))⟩)⟩)
                    · have c148 := zz_nleT c148
                      refine lv_aload_n hx hb dX9_sheet_100 rfl (lv_at hl 1 rfl) ?_
                      refine zz_getr hx hb hts hi9 hown hK hP (g0.1) rfl 6 (by decide) (hts (.fieldLink RX9 25 "NoonLawModel" "cells" "[I") (List.mem_cons_of_mem _ bm_98)) rfl rfl dX9_sheet_101 ?_
                      refine lv_bipush (v := 24) hx hb dX9_sheet_104 (by decide) ?_
                      refine lv_iload_n hx hb dX9_sheet_106 rfl (lv_at hl 2 rfl) ?_
                      refine lv_imul hx hb dX9_sheet_107 ?_
                      refine lv_topi (fun n149 e149 => ?_)
                      have f149 : n149.toInt = 24 * (sh).toInt := zz_mulL 24 e149 (by decide) (by omega) (by omega)
                      refine lv_iload hx hb dX9_sheet_108 (lv_at hl 0 rfl) ?_
                      refine lv_iadd hx hb dX9_sheet_110 ?_
                      refine lv_topi (fun n150 e150 => ?_)
                      have f150 : n150.toInt = (n149).toInt + (ii).toInt := zz_addT e150 (by omega) (by omega)
                      refine lv_iconst (v := 0) hx hb dX9_sheet_111 (by decide) ?_
                      refine zz_iast hx hb hK hP hS (g0.2.2.2.2.2.2.1) (by omega) (by omega) dX9_sheet_112 (fun j151 σ151 H locs q151 r151 w151 hP1 hS1 => ?_)
                      replace hP := hP1
                      replace hS := hS1
                      clear hP1 hS1
                      replace hC := hC.u w151 (dS28_10 h0)
                      obtain ⟨n152, e152⟩ : ∃ y : Int32, y = ii + 1 := ⟨_, rfl⟩
                      have f152 : n152.toInt = (ii).toInt + (1) := by have h9 := zz_addT e152 (by omega) (by omega); omega
                      refine lv_iinc (v := n152) (lv' := [(4, .int n152), (0, .ref h0), (1, .int sh), (2, .int bi), (3, .int nn)]) hx hb dX9_sheet_113 hl (k := 0) rfl (by rw [e152]; rfl) (by decide) rfl (fun ls hl => ?_)
                      refine lv_goto (tgt := 93) hx hb dX9_sheet_116 (by decide) ?_
                      exact ih93 n152 σ151 _ _ _ (by omega) hC (by first | omega | exact hI | exact hT) (by intro j hj; rw [w151, zz_un (by omega)]; exact f93_1 j hj) (by rw [zz_HMo (a := h0 + 4) w151 (by omega)]; exact f93_2) (by rw [zz_HMo (a := h0 + 5) w151 (by omega)]; exact f93_3) (by intro k hk; exact if hq : 24 * sh.toInt.toNat + k = j151 then (by rw [hq, w151, zz_us]; exact k_0) else (by rw [w151, zz_un (by omega)]; exact f93_4 k (by omega))) (by intro i hi hq; rw [w151, zz_un (by omega)]; exact f93_5 i hi hq) hP hS (lv_sub hl [0, 1, 2, 3, 4] rfl)
                exact J93 _ 0 σ147 _ _ _ (Nat.lt_succ_self _) hC (by first | omega | exact hI | exact hT) (by intro j hj; exact if hq : j = j147 then (by rw [hq, w147, zz_us]; omega) else (by rw [w147, zz_un (by omega), w139, zz_un (by omega)]; exact hz5 j hj)) (by rw [zz_HMo (a := h0 + 4) w147 (by omega), zz_HMw w139 (by omega : (j139 : Int) = sh.toInt) (by omega)]) (by rw [zz_HMw w147 (by omega : (j147 : Int) = sh.toInt) (by omega), zz_HMo (a := h0 + 5) w139 (by omega), if_pos (by omega), k_0]) (by intro k hk; omega) (by intro i hi hq; rw [w147, zz_un (by omega), w139, zz_un (by omega)]) hP hS (lv_sub hl [0, 1, 2, 3, 4] rfl)
            · have c138 := zz_nleT c138
              refine lv_iload_n hx hb dX9_sheet_55 rfl (lv_at hl 3 rfl) ?_
              refine lv_bipush (v := 24) hx hb dX9_sheet_56 (by decide) ?_
              refine lv_icmp_le (tgt := 68) hx hb dX9_sheet_58 (by decide) (fun c153 => ?_) (fun c153 => ?_)
              · have c153 := zz_leT c153
                refine lv_aload_n hx hb dX9_sheet_68 rfl (lv_at hl 0 rfl) ?_
                refine zz_getr hx hb hts hi9 hown hK hP (g0.1) rfl 4 (by decide) (hts (.fieldLink RX9 19 "NoonLawModel" "bitsOf" "[I") (List.mem_cons_of_mem _ bm_96)) rfl rfl dX9_sheet_69 ?_
                refine lv_iload_n hx hb dX9_sheet_72 rfl (lv_at hl 1 rfl) ?_
                refine lv_iload_n hx hb dX9_sheet_73 rfl (lv_at hl 2 rfl) ?_
                refine zz_iast hx hb hK hP hS (g0.2.2.2.2.1) (by omega) (by omega) dX9_sheet_74 (fun j154 σ154 H locs q154 r154 w154 hP1 hS1 => ?_)
                replace hP := hP1
                replace hS := hS1
                clear hP1 hS1
                replace hC := hC.u w154 (dS28_8 h0)
                refine lv_aload_n hx hb dX9_sheet_75 rfl (lv_at hl 0 rfl) ?_
                refine zz_getr hx hb hts hi9 hown hK hP (g0.1) rfl 5 (by decide) (hts (.fieldLink RX9 22 "NoonLawModel" "sizeOf" "[I") (List.mem_cons_of_mem _ bm_97)) rfl rfl dX9_sheet_76 ?_
                refine lv_iload_n hx hb dX9_sheet_79 rfl (lv_at hl 1 rfl) ?_
                refine lv_iload_n hx hb dX9_sheet_80 rfl (lv_at hl 2 rfl) ?_
                refine lv_if_ne (tgt := 88) hx hb dX9_sheet_81 (by decide) (fun c155 => ?_) (fun c155 => ?_)
                · have c155 := zz_neT c155
                  refine lv_iload_n hx hb dX9_sheet_88 rfl (lv_at hl 3 rfl) ?_
                  refine zz_iast hx hb hK hP hS (g0.2.2.2.2.2.1) (by omega) (by omega) dX9_sheet_89 (fun j156 σ156 H locs q156 r156 w156 hP1 hS1 => ?_)
                  replace hP := hP1
                  replace hS := hS1
                  clear hP1 hS1
                  replace hC := hC.u w156 (dS28_9 h0)
                  refine lv_iconst (v := 0) hx hb dX9_sheet_90 (by decide) ?_
                  refine lv_istore (lv' := [(4, .int 0), (0, .ref h0), (1, .int sh), (2, .int bi), (3, .int nn)]) hx hb dX9_sheet_91 hl (by decide) rfl (fun ls hl => ?_)
                  have J93 : ∀ (n : Nat) (ii : Int32) (σa : zz_S) (H : Heap) (locs : List Loc) (ls : Array Slot), ((24 - ii.toInt).toNat) < n → (zz_ch (fun a k => (a = h0 + 3 ∨ (h0 + 7 ≤ a ∧ a ≤ h0 + 11)) ∨ a = h0 + 4 ∨ a = h0 + 5 ∨ a = h0 + 6) σ σa) → (0 ≤ ii.toInt) → (∀ j : Nat, j < 4 → 0 ≤ (σa (h0 + 5) j).toInt ∧ (σa (h0 + 5) j).toInt ≤ 24) → (zz_HM σa (h0 + 4) = zz_wn (zz_HM σ (h0 + 4)) sh.toInt bi.toInt) → (zz_HM σa (h0 + 5) = zz_wn (zz_HM σ (h0 + 5)) sh.toInt (if bi.toInt = 0 then 0 else nn.toInt)) → (∀ k : Nat, (k : Int) < ii.toInt → (σa (h0 + 6) (24 * sh.toInt.toNat + k)).toInt = 0) → (∀ i : Nat, i < 96 → (i < 24 * sh.toInt.toNat ∨ 24 * sh.toInt.toNat + 24 ≤ i) → σa (h0 + 6) i = σ (h0 + 6) i) → zz_P E σa H → va_S (zz_A E) s.heap H locs → lv_has ls 5 [(4, .int ii), (0, .ref h0), (1, .int sh), (2, .int bi), (3, .int nn)] → W p l e (headSpec wzX9_sheet ({ frames := 2, cells := 0, slots := 0, locals := 42 })).room s m args below meth c H locs 0 0 (MQ below (va_Qi (fun r σ1 => zz_ch (fun a k => (a = h0 + 3 ∨ (h0 + 7 ≤ a ∧ a ≤ h0 + 11)) ∨ a = h0 + 4 ∨ a = h0 + 5 ∨ a = h0 + 6) σ σ1 ∧ (zz_IM σ1 h0 ∧ zz_sheet sh.toInt bi.toInt nn.toInt r.toInt ∧ (r.toInt < 0 → zz_HM σ1 (h0 + 4) = zz_HM σ (h0 + 4) ∧ zz_HM σ1 (h0 + 5) = zz_HM σ (h0 + 5) ∧ zz_CM σ1 (h0 + 6) = zz_CM σ (h0 + 6)) ∧ (0 ≤ r.toInt → zz_HM σ1 (h0 + 4) = zz_wn (zz_HM σ (h0 + 4)) sh.toInt bi.toInt ∧ zz_HM σ1 (h0 + 5) = zz_wn (zz_HM σ (h0 + 5)) sh.toInt (if bi.toInt = 0 then 0 else nn.toInt) ∧ zz_CM σ1 (h0 + 6) = zz_cz (zz_CM σ (h0 + 6)) sh.toInt))) (zz_B E) (zz_A E)) args s 0 0 (zz_A E)) (F0 m 93 ls []) := by
                    intro n
                    induction n with
                    | zero => intro ii σa H locs ls hm; exact absurd hm (Nat.not_lt_zero _)
                    | succ n ih93 =>
                      intro ii σa H locs ls hm hC f93_0 f93_1 f93_2 f93_3 f93_4 f93_5 hP hS hl
                      refine lv_iload hx hb dX9_sheet_93 (lv_at hl 0 rfl) ?_
                      refine lv_bipush (v := 24) hx hb dX9_sheet_95 (by decide) ?_
                      refine lv_icmp_ge (tgt := 119) hx hb dX9_sheet_97 (by decide) (fun c157 => ?_) (fun c157 => ?_)
                      · have c157 := zz_leT c157
                        refine lv_iconst (v := 1) hx hb dX9_sheet_119 (by decide) ?_
                        exact zz_iret hx hb hr hlocks hK hP hS dX9_sheet_120 (by exact ⟨hC, ⟨hJ.1.keep (fun k => hC _ _ (by first | (dsimp only; omega) | omega)), hJ.2.1.keep (fun k => hC _ _ (by first | (dsimp only; omega) | omega)), f93_1, (by rw [hC _ _ (by first | (dsimp only; omega) | omega)]; exact htr)⟩, (by unfold zz_sheet; omega), (fun q => absurd q (by omega)), (fun _ => ⟨f93_2, f93_3, zz_CM.cz (j0 := sh.toInt.toNat) (by omega) (by omega) (fun k hk => f93_4 k (by omega)) (fun i hi hq => f93_5 i hi (by omega))⟩)⟩)
                      · have c157 := zz_nleT c157
                        refine lv_aload_n hx hb dX9_sheet_100 rfl (lv_at hl 1 rfl) ?_
                        refine zz_getr hx hb hts hi9 hown hK hP (g0.1) rfl 6 (by decide) (hts (.fieldLink RX9 25 "NoonLawModel" "cells" "[I") (List.mem_cons_of_mem _ bm_98)) rfl rfl dX9_sheet_101 ?_
                        refine lv_bipush (v := 24) hx hb dX9_sheet_104 (by decide) ?_
                        refine lv_iload_n hx hb dX9_sheet_106 rfl (lv_at hl 2 rfl) ?_
                        refine lv_imul hx hb dX9_sheet_107 ?_
                        refine lv_topi (fun n158 e158 => ?_)
                        have f158 : n158.toInt = 24 * (sh).toInt := zz_mulL 24 e158 (by decide) (by omega) (by omega)
                        refine lv_iload hx hb dX9_sheet_108 (lv_at hl 0 rfl) ?_
                        refine lv_iadd hx hb dX9_sheet_110 ?_
                        refine lv_topi (fun n159 e159 => ?_)
                        have f159 : n159.toInt = (n158).toInt + (ii).toInt := zz_addT e159 (by omega) (by omega)
                        refine lv_iconst (v := 0) hx hb dX9_sheet_111 (by decide) ?_
                        refine zz_iast hx hb hK hP hS (g0.2.2.2.2.2.2.1) (by omega) (by omega) dX9_sheet_112 (fun j160 σ160 H locs q160 r160 w160 hP1 hS1 => ?_)
                        replace hP := hP1
                        replace hS := hS1
                        clear hP1 hS1
                        replace hC := hC.u w160 (dS28_10 h0)
                        obtain ⟨n161, e161⟩ : ∃ y : Int32, y = ii + 1 := ⟨_, rfl⟩
                        have f161 : n161.toInt = (ii).toInt + (1) := by have h9 := zz_addT e161 (by omega) (by omega); omega
                        refine lv_iinc (v := n161) (lv' := [(4, .int n161), (0, .ref h0), (1, .int sh), (2, .int bi), (3, .int nn)]) hx hb dX9_sheet_113 hl (k := 0) rfl (by rw [e161]; rfl) (by decide) rfl (fun ls hl => ?_)
                        refine lv_goto (tgt := 93) hx hb dX9_sheet_116 (by decide) ?_
                        exact ih93 n161 σ160 _ _ _ (by omega) hC (by first | omega | exact hI | exact hT) (by intro j hj; rw [w160, zz_un (by omega)]; exact f93_1 j hj) (by rw [zz_HMo (a := h0 + 4) w160 (by omega)]; exact f93_2) (by rw [zz_HMo (a := h0 + 5) w160 (by omega)]; exact f93_3) (by intro k hk; exact if hq : 24 * sh.toInt.toNat + k = j160 then (by rw [hq, w160, zz_us]; exact k_0) else (by rw [w160, zz_un (by omega)]; exact f93_4 k (by omega))) (by intro i hi hq; rw [w160, zz_un (by omega)]; exact f93_5 i hi hq) hP hS (lv_sub hl [0, 1, 2, 3, 4] rfl)
                  exact J93 _ 0 σ156 _ _ _ (Nat.lt_succ_self _) hC (by first | omega | exact hI | exact hT) (by intro j hj; exact if hq : j = j156 then (by rw [hq, w156, zz_us]; omega) else (by rw [w156, zz_un (by omega), w154, zz_un (by omega)]; exact hz5 j hj)) (by rw [zz_HMo (a := h0 + 4) w156 (by omega), zz_HMw w154 (by omega : (j154 : Int) = sh.toInt) (by omega)]) (by rw [zz_HMw w156 (by omega : (j156 : Int) = sh.toInt) (by omega), zz_HMo (a := h0 + 5) w154 (by omega), if_neg (by omega)]) (by intro k hk; omega) (by intro i hi hq; rw [w156, zz_un (by omega), w154, zz_un (by omega)]) hP hS (lv_sub hl [0, 1, 2, 3, 4] rfl)
                · have c155 := zz_eqT c155
                  refine lv_iconst (v := 0) hx hb dX9_sheet_84 (by decide) ?_
                  refine lv_goto (tgt := 89) hx hb dX9_sheet_85 (by decide) ?_
                  refine zz_iast hx hb hK hP hS (g0.2.2.2.2.2.1) (by omega) (by omega) dX9_sheet_89 (fun j162 σ162 H locs q162 r162 w162 hP1 hS1 => ?_)
                  replace hP := hP1
                  replace hS := hS1
                  clear hP1 hS1
                  replace hC := hC.u w162 (dS28_9 h0)
                  refine lv_iconst (v := 0) hx hb dX9_sheet_90 (by decide) ?_
                  refine lv_istore (lv' := [(4, .int 0), (0, .ref h0), (1, .int sh), (2, .int bi), (3, .int nn)]) hx hb dX9_sheet_91 hl (by decide) rfl (fun ls hl => ?_)
                  have J93 : ∀ (n : Nat) (ii : Int32) (σa : zz_S) (H : Heap) (locs : List Loc) (ls : Array Slot), ((24 - ii.toInt).toNat) < n → (zz_ch (fun a k => (a = h0 + 3 ∨ (h0 + 7 ≤ a ∧ a ≤ h0 + 11)) ∨ a = h0 + 4 ∨ a = h0 + 5 ∨ a = h0 + 6) σ σa) → (0 ≤ ii.toInt) → (∀ j : Nat, j < 4 → 0 ≤ (σa (h0 + 5) j).toInt ∧ (σa (h0 + 5) j).toInt ≤ 24) → (zz_HM σa (h0 + 4) = zz_wn (zz_HM σ (h0 + 4)) sh.toInt bi.toInt) → (zz_HM σa (h0 + 5) = zz_wn (zz_HM σ (h0 + 5)) sh.toInt (if bi.toInt = 0 then 0 else nn.toInt)) → (∀ k : Nat, (k : Int) < ii.toInt → (σa (h0 + 6) (24 * sh.toInt.toNat + k)).toInt = 0) → (∀ i : Nat, i < 96 → (i < 24 * sh.toInt.toNat ∨ 24 * sh.toInt.toNat + 24 ≤ i) → σa (h0 + 6) i = σ (h0 + 6) i) → zz_P E σa H → va_S (zz_A E) s.heap H locs → lv_has ls 5 [(4, .int ii), (0, .ref h0), (1, .int sh), (2, .int bi), (3, .int nn)] → W p l e (headSpec wzX9_sheet ({ frames := 2, cells := 0, slots := 0, locals := 42 })).room s m args below meth c H locs 0 0 (MQ below (va_Qi (fun r σ1 => zz_ch (fun a k => (a = h0 + 3 ∨ (h0 + 7 ≤ a ∧ a ≤ h0 + 11)) ∨ a = h0 + 4 ∨ a = h0 + 5 ∨ a = h0 + 6) σ σ1 ∧ (zz_IM σ1 h0 ∧ zz_sheet sh.toInt bi.toInt nn.toInt r.toInt ∧ (r.toInt < 0 → zz_HM σ1 (h0 + 4) = zz_HM σ (h0 + 4) ∧ zz_HM σ1 (h0 + 5) = zz_HM σ (h0 + 5) ∧ zz_CM σ1 (h0 + 6) = zz_CM σ (h0 + 6)) ∧ (0 ≤ r.toInt → zz_HM σ1 (h0 + 4) = zz_wn (zz_HM σ (h0 + 4)) sh.toInt bi.toInt ∧ zz_HM σ1 (h0 + 5) = zz_wn (zz_HM σ (h0 + 5)) sh.toInt (if bi.toInt = 0 then 0 else nn.toInt) ∧ zz_CM σ1 (h0 + 6) = zz_cz (zz_CM σ (h0 + 6)) sh.toInt))) (zz_B E) (zz_A E)) args s 0 0 (zz_A E)) (F0 m 93 ls []) := by
                    intro n
                    induction n with
                    | zero => intro ii σa H locs ls hm; exact absurd hm (Nat.not_lt_zero _)
                    | succ n ih93 =>
                      intro ii σa H locs ls hm hC f93_0 f93_1 f93_2 f93_3 f93_4 f93_5 hP hS hl
                      refine lv_iload hx hb dX9_sheet_93 (lv_at hl 0 rfl) ?_
                      refine lv_bipush (v := 24) hx hb dX9_sheet_95 (by decide) ?_
                      refine lv_icmp_ge (tgt := 119) hx hb dX9_sheet_97 (by decide) (fun c163 => ?_) (fun c163 => ?_)
                      · have c163 := zz_leT c163
                        refine lv_iconst (v := 1) hx hb dX9_sheet_119 (by decide) ?_
                        exact zz_iret hx hb hr hlocks hK hP hS dX9_sheet_120 (by exact ⟨hC, ⟨hJ.1.keep (fun k => hC _ _ (by first | (dsimp only; omega) | omega)), hJ.2.1.keep (fun k => hC _ _ (by first | (dsimp only; omega) | omega)), f93_1, (by rw [hC _ _ (by first | (dsimp only; omega) | omega)]; exact htr)⟩, (by unfold zz_sheet; omega), (fun q => absurd q (by omega)), (fun _ => ⟨f93_2, f93_3, zz_CM.cz (j0 := sh.toInt.toNat) (by omega) (by omega) (fun k hk => f93_4 k (by omega)) (fun i hi hq => f93_5 i hi (by omega))⟩)⟩)
                      · have c163 := zz_nleT c163
                        refine lv_aload_n hx hb dX9_sheet_100 rfl (lv_at hl 1 rfl) ?_
                        refine zz_getr hx hb hts hi9 hown hK hP (g0.1) rfl 6 (by decide) (hts (.fieldLink RX9 25 "NoonLawModel" "cells" "[I") (List.mem_cons_of_mem _ bm_98)) rfl rfl dX9_sheet_101 ?_
                        refine lv_bipush (v := 24) hx hb dX9_sheet_104 (by decide) ?_
                        refine lv_iload_n hx hb dX9_sheet_106 rfl (lv_at hl 2 rfl) ?_
                        refine lv_imul hx hb dX9_sheet_107 ?_
                        refine lv_topi (fun n164 e164 => ?_)
                        have f164 : n164.toInt = 24 * (sh).toInt := zz_mulL 24 e164 (by decide) (by omega) (by omega)
                        refine lv_iload hx hb dX9_sheet_108 (lv_at hl 0 rfl) ?_
                        refine lv_iadd hx hb dX9_sheet_110 ?_
                        refine lv_topi (fun n165 e165 => ?_)
                        have f165 : n165.toInt = (n164).toInt + (ii).toInt := zz_addT e165 (by omega) (by omega)
                        refine lv_iconst (v := 0) hx hb dX9_sheet_111 (by decide) ?_
                        refine zz_iast hx hb hK hP hS (g0.2.2.2.2.2.2.1) (by omega) (by omega) dX9_sheet_112 (fun j166 σ166 H locs q166 r166 w166 hP1 hS1 => ?_)
                        replace hP := hP1
                        replace hS := hS1
                        clear hP1 hS1
                        replace hC := hC.u w166 (dS28_10 h0)
                        obtain ⟨n167, e167⟩ : ∃ y : Int32, y = ii + 1 := ⟨_, rfl⟩
                        have f167 : n167.toInt = (ii).toInt + (1) := by have h9 := zz_addT e167 (by omega) (by omega); omega
                        refine lv_iinc (v := n167) (lv' := [(4, .int n167), (0, .ref h0), (1, .int sh), (2, .int bi), (3, .int nn)]) hx hb dX9_sheet_113 hl (k := 0) rfl (by rw [e167]; rfl) (by decide) rfl (fun ls hl => ?_)
                        refine lv_goto (tgt := 93) hx hb dX9_sheet_116 (by decide) ?_
                        exact ih93 n167 σ166 _ _ _ (by omega) hC (by first | omega | exact hI | exact hT) (by intro j hj; rw [w166, zz_un (by omega)]; exact f93_1 j hj) (by rw [zz_HMo (a := h0 + 4) w166 (by omega)]; exact f93_2) (by rw [zz_HMo (a := h0 + 5) w166 (by omega)]; exact f93_3) (by intro k hk; exact if hq : 24 * sh.toInt.toNat + k = j166 then (by rw [hq, w166, zz_us]; exact k_0) else (by rw [w166, zz_un (by omega)]; exact f93_4 k (by omega))) (by intro i hi hq; rw [w166, zz_un (by omega)]; exact f93_5 i hi hq) hP hS (lv_sub hl [0, 1, 2, 3, 4] rfl)
                  exact J93 _ 0 σ162 _ _ _ (Nat.lt_succ_self _) hC (by first | omega | exact hI | exact hT) (by intro j hj; exact if hq : j = j162 then (by rw [hq, w162, zz_us]; omega) else (by rw [w162, zz_un (by omega), w154, zz_un (by omega)]; exact hz5 j hj)) (by rw [zz_HMo (a := h0 + 4) w162 (by omega), zz_HMw w154 (by omega : (j154 : Int) = sh.toInt) (by omega)]) (by rw [zz_HMw w162 (by omega : (j162 : Int) = sh.toInt) (by omega), zz_HMo (a := h0 + 5) w154 (by omega), if_pos (by omega), k_0]) (by intro k hk; omega) (by intro i hi hq; rw [w162, zz_un (by omega), w154, zz_un (by omega)]) hP hS (lv_sub hl [0, 1, 2, 3, 4] rfl)
              · have c153 := zz_nleT c153
                refine lv_aload_n hx hb dX9_sheet_61 rfl (lv_at hl 0 rfl) ?_
                refine lv_ldc (v := (-1000000001)) hx hb hown (hts (.constant RX9 93 (-1000000001)) (List.mem_cons_of_mem _ bm_138)) dX9_sheet_62 ?_
                refine zz_callVi (As := [.int (-1000000001)]) (rest := []) ⟨hx, hb, hml, hown, hts⟩ hK hP hS (c_X9_error l E σ h0 (-1000000001) g0 (by omega)) (cwV 1 hts gX9_sheet_X9_error rfl rfl rfl (by decide +kernel) ⟨Nat.le_of_ble_eq_true rfl, Nat.le_of_ble_eq_true rfl⟩) (g0.1) rfl rfl hl.1 rfl (Nat.le_of_ble_eq_true rfl) dX9_sheet_64 ⟨Nat.zero_le _, Nat.zero_le _⟩ (fun r168 σ168 H locs q168 hP1 hS1 => ?_)
                replace hP := hP1
                replace hS := hS1
                clear hP1 hS1
                try dsimp only at q168
                obtain ⟨w168, f168⟩ := q168
                replace hC := hC.tr (w168.mono (dS28_7 h0))
                exact zz_iret hx hb hr hlocks hK hP hS dX9_sheet_67 (by exact ⟨hC, (hJ.soft (w168.mono (by intro a k h; omega))), (by unfold zz_sheet; omega), (fun _ => ⟨zz_HM.eq (fun j hj => w168 _ _ (by first | (dsimp only; omega) | omega)), zz_HM.eq (fun j hj => w168 _ _ (by first | (dsimp only; omega) | omega)), zz_CM.eq (fun k hk => w168 _ _ (by first | (dsimp only; omega) | omega))⟩), (fun q => absurd q (by omega))⟩)
          · have c137 := zz_nleT c137
            refine lv_iload_n hx hb dX9_sheet_40 rfl (lv_at hl 3 rfl) ?_
            refine lv_if_ge (tgt := 51) hx hb dX9_sheet_41 (by decide) (fun c169 => ?_) (fun c169 => ?_)
            · have c169 := zz_leT c169
              refine lv_iload_n hx hb dX9_sheet_51 rfl (lv_at hl 2 rfl) ?_
              refine lv_if_le (tgt := 68) hx hb dX9_sheet_52 (by decide) (fun c170 => ?_) (fun c170 => ?_)
              · have c170 := zz_leT c170
                refine lv_aload_n hx hb dX9_sheet_68 rfl (lv_at hl 0 rfl) ?_
                refine zz_getr hx hb hts hi9 hown hK hP (g0.1) rfl 4 (by decide) (hts (.fieldLink RX9 19 "NoonLawModel" "bitsOf" "[I") (List.mem_cons_of_mem _ bm_96)) rfl rfl dX9_sheet_69 ?_
                refine lv_iload_n hx hb dX9_sheet_72 rfl (lv_at hl 1 rfl) ?_
                refine lv_iload_n hx hb dX9_sheet_73 rfl (lv_at hl 2 rfl) ?_
                refine zz_iast hx hb hK hP hS (g0.2.2.2.2.1) (by omega) (by omega) dX9_sheet_74 (fun j171 σ171 H locs q171 r171 w171 hP1 hS1 => ?_)
                replace hP := hP1
                replace hS := hS1
                clear hP1 hS1
                replace hC := hC.u w171 (dS28_8 h0)
                refine lv_aload_n hx hb dX9_sheet_75 rfl (lv_at hl 0 rfl) ?_
                refine zz_getr hx hb hts hi9 hown hK hP (g0.1) rfl 5 (by decide) (hts (.fieldLink RX9 22 "NoonLawModel" "sizeOf" "[I") (List.mem_cons_of_mem _ bm_97)) rfl rfl dX9_sheet_76 ?_
                refine lv_iload_n hx hb dX9_sheet_79 rfl (lv_at hl 1 rfl) ?_
                refine lv_iload_n hx hb dX9_sheet_80 rfl (lv_at hl 2 rfl) ?_
                refine lv_if_ne (tgt := 88) hx hb dX9_sheet_81 (by decide) (fun c172 => ?_) (fun c172 => ?_)
                · have c172 := zz_neT c172
                  refine lv_iload_n hx hb dX9_sheet_88 rfl (lv_at hl 3 rfl) ?_
                  refine zz_iast hx hb hK hP hS (g0.2.2.2.2.2.1) (by omega) (by omega) dX9_sheet_89 (fun j173 σ173 H locs q173 r173 w173 hP1 hS1 => ?_)
                  replace hP := hP1
                  replace hS := hS1
                  clear hP1 hS1
                  replace hC := hC.u w173 (dS28_9 h0)
                  refine lv_iconst (v := 0) hx hb dX9_sheet_90 (by decide) ?_
                  refine lv_istore (lv' := [(4, .int 0), (0, .ref h0), (1, .int sh), (2, .int bi), (3, .int nn)]) hx hb dX9_sheet_91 hl (by decide) rfl (fun ls hl => ?_)
                  have J93 : ∀ (n : Nat) (ii : Int32) (σa : zz_S) (H : Heap) (locs : List Loc) (ls : Array Slot), ((24 - ii.toInt).toNat) < n → (zz_ch (fun a k => (a = h0 + 3 ∨ (h0 + 7 ≤ a ∧ a ≤ h0 + 11)) ∨ a = h0 + 4 ∨ a = h0 + 5 ∨ a = h0 + 6) σ σa) → (0 ≤ ii.toInt) → (∀ j : Nat, j < 4 → 0 ≤ (σa (h0 + 5) j).toInt ∧ (σa (h0 + 5) j).toInt ≤ 24) → (zz_HM σa (h0 + 4) = zz_wn (zz_HM σ (h0 + 4)) sh.toInt bi.toInt) → (zz_HM σa (h0 + 5) = zz_wn (zz_HM σ (h0 + 5)) sh.toInt (if bi.toInt = 0 then 0 else nn.toInt)) → (∀ k : Nat, (k : Int) < ii.toInt → (σa (h0 + 6) (24 * sh.toInt.toNat + k)).toInt = 0) → (∀ i : Nat, i < 96 → (i < 24 * sh.toInt.toNat ∨ 24 * sh.toInt.toNat + 24 ≤ i) → σa (h0 + 6) i = σ (h0 + 6) i) → zz_P E σa H → va_S (zz_A E) s.heap H locs → lv_has ls 5 [(4, .int ii), (0, .ref h0), (1, .int sh), (2, .int bi), (3, .int nn)] → W p l e (headSpec wzX9_sheet ({ frames := 2, cells := 0, slots := 0, locals := 42 })).room s m args below meth c H locs 0 0 (MQ below (va_Qi (fun r σ1 => zz_ch (fun a k => (a = h0 + 3 ∨ (h0 + 7 ≤ a ∧ a ≤ h0 + 11)) ∨ a = h0 + 4 ∨ a = h0 + 5 ∨ a = h0 + 6) σ σ1 ∧ (zz_IM σ1 h0 ∧ zz_sheet sh.toInt bi.toInt nn.toInt r.toInt ∧ (r.toInt < 0 → zz_HM σ1 (h0 + 4) = zz_HM σ (h0 + 4) ∧ zz_HM σ1 (h0 + 5) = zz_HM σ (h0 + 5) ∧ zz_CM σ1 (h0 + 6) = zz_CM σ (h0 + 6)) ∧ (0 ≤ r.toInt → zz_HM σ1 (h0 + 4) = zz_wn (zz_HM σ (h0 + 4)) sh.toInt bi.toInt ∧ zz_HM σ1 (h0 + 5) = zz_wn (zz_HM σ (h0 + 5)) sh.toInt (if bi.toInt = 0 then 0 else nn.toInt) ∧ zz_CM σ1 (h0 + 6) = zz_cz (zz_CM σ (h0 + 6)) sh.toInt))) (zz_B E) (zz_A E)) args s 0 0 (zz_A E)) (F0 m 93 ls []) := by
                    intro n
                    induction n with
                    | zero => intro ii σa H locs ls hm; exact absurd hm (Nat.not_lt_zero _)
                    | succ n ih93 =>
                      intro ii σa H locs ls hm hC f93_0 f93_1 f93_2 f93_3 f93_4 f93_5 hP hS hl
                      refine lv_iload hx hb dX9_sheet_93 (lv_at hl 0 rfl) ?_
                      refine lv_bipush (v := 24) hx hb dX9_sheet_95 (by decide) ?_
                      refine lv_icmp_ge (tgt := 119) hx hb dX9_sheet_97 (by decide) (fun c174 => ?_) (fun c174 => ?_)
                      · have c174 := zz_leT c174
                        refine lv_iconst (v := 1) hx hb dX9_sheet_119 (by decide) ?_
                        exact zz_iret hx hb hr hlocks hK hP hS dX9_sheet_120 (by exact ⟨hC, ⟨hJ.1.keep (fun k => hC _ _ (by first | (dsimp only; omega) | omega)), hJ.2.1.keep (fun k => hC _ _ (by first | (dsimp only; omega) | omega)), f93_1, (by rw [hC _ _ (by first | (dsimp only; omega) | omega)]; exact htr)⟩, (by unfold zz_sheet; omega), (fun q => absurd q (by omega)), (fun _ => ⟨f93_2, f93_3, zz_CM.cz (j0 := sh.toInt.toNat) (by omega) (by omega) (fun k hk => f93_4 k (by omega)) (fun i hi hq => f93_5 i hi (by omega))⟩)⟩)
                      · have c174 := zz_nleT c174
                        refine lv_aload_n hx hb dX9_sheet_100 rfl (lv_at hl 1 rfl) ?_
                        refine zz_getr hx hb hts hi9 hown hK hP (g0.1) rfl 6 (by decide) (hts (.fieldLink RX9 25 "NoonLawModel" "cells" "[I") (List.mem_cons_of_mem _ bm_98)) rfl rfl dX9_sheet_101 ?_
                        refine lv_bipush (v := 24) hx hb dX9_sheet_104 (by decide) ?_
                        refine lv_iload_n hx hb dX9_sheet_106 rfl (lv_at hl 2 rfl) ?_
                        refine lv_imul hx hb dX9_sheet_107 ?_
                        refine lv_topi (fun n175 e175 => ?_)
                        have f175 : n175.toInt = 24 * (sh).toInt := zz_mulL 24 e175 (by decide) (by omega) (by omega)
                        refine lv_iload hx hb dX9_sheet_108 (lv_at hl 0 rfl) ?_
                        refine lv_iadd hx hb dX9_sheet_110 ?_
                        refine lv_topi (fun n176 e176 => ?_)
                        have f176 : n176.toInt = (n175).toInt + (ii).toInt := zz_addT e176 (by omega) (by omega)
                        refine lv_iconst (v := 0) hx hb dX9_sheet_111 (by decide) ?_
                        refine zz_iast hx hb hK hP hS (g0.2.2.2.2.2.2.1) (by omega) (by omega) dX9_sheet_112 (fun j177 σ177 H locs q177 r177 w177 hP1 hS1 => ?_)
                        replace hP := hP1
                        replace hS := hS1
                        clear hP1 hS1
                        replace hC := hC.u w177 (dS28_10 h0)
                        obtain ⟨n178, e178⟩ : ∃ y : Int32, y = ii + 1 := ⟨_, rfl⟩
                        have f178 : n178.toInt = (ii).toInt + (1) := by have h9 := zz_addT e178 (by omega) (by omega); omega
                        refine lv_iinc (v := n178) (lv' := [(4, .int n178), (0, .ref h0), (1, .int sh), (2, .int bi), (3, .int nn)]) hx hb dX9_sheet_113 hl (k := 0) rfl (by rw [e178]; rfl) (by decide) rfl (fun ls hl => ?_)
                        refine lv_goto (tgt := 93) hx hb dX9_sheet_116 (by decide) ?_
                        exact ih93 n178 σ177 _ _ _ (by omega) hC (by first | omega | exact hI | exact hT) (by intro j hj; rw [w177, zz_un (by omega)]; exact f93_1 j hj) (by rw [zz_HMo (a := h0 + 4) w177 (by omega)]; exact f93_2) (by rw [zz_HMo (a := h0 + 5) w177 (by omega)]; exact f93_3) (by intro k hk; exact if hq : 24 * sh.toInt.toNat + k = j177 then (by rw [hq, w177, zz_us]; exact k_0) else (by rw [w177, zz_un (by omega)]; exact f93_4 k (by omega))) (by intro i hi hq; rw [w177, zz_un (by omega)]; exact f93_5 i hi hq) hP hS (lv_sub hl [0, 1, 2, 3, 4] rfl)
                  exact J93 _ 0 σ173 _ _ _ (Nat.lt_succ_self _) hC (by first | omega | exact hI | exact hT) (by intro j hj; exact if hq : j = j173 then (by rw [hq, w173, zz_us]; omega) else (by rw [w173, zz_un (by omega), w171, zz_un (by omega)]; exact hz5 j hj)) (by rw [zz_HMo (a := h0 + 4) w173 (by omega), zz_HMw w171 (by omega : (j171 : Int) = sh.toInt) (by omega)]) (by rw [zz_HMw w173 (by omega : (j173 : Int) = sh.toInt) (by omega), zz_HMo (a := h0 + 5) w171 (by omega), if_neg (by omega)]) (by intro k hk; omega) (by intro i hi hq; rw [w173, zz_un (by omega), w171, zz_un (by omega)]) hP hS (lv_sub hl [0, 1, 2, 3, 4] rfl)
                · have c172 := zz_eqT c172
                  refine lv_iconst (v := 0) hx hb dX9_sheet_84 (by decide) ?_
                  refine lv_goto (tgt := 89) hx hb dX9_sheet_85 (by decide) ?_
                  refine zz_iast hx hb hK hP hS (g0.2.2.2.2.2.1) (by omega) (by omega) dX9_sheet_89 (fun j179 σ179 H locs q179 r179 w179 hP1 hS1 => ?_)
                  replace hP := hP1
                  replace hS := hS1
                  clear hP1 hS1
                  replace hC := hC.u w179 (dS28_9 h0)
                  refine lv_iconst (v := 0) hx hb dX9_sheet_90 (by decide) ?_
                  refine lv_istore (lv' := [(4, .int 0), (0, .ref h0), (1, .int sh), (2, .int bi), (3, .int nn)]) hx hb dX9_sheet_91 hl (by decide) rfl (fun ls hl => ?_)
                  have J93 : ∀ (n : Nat) (ii : Int32) (σa : zz_S) (H : Heap) (locs : List Loc) (ls : Array Slot), ((24 - ii.toInt).toNat) < n → (zz_ch (fun a k => (a = h0 + 3 ∨ (h0 + 7 ≤ a ∧ a ≤ h0 + 11)) ∨ a = h0 + 4 ∨ a = h0 + 5 ∨ a = h0 + 6) σ σa) → (0 ≤ ii.toInt) → (∀ j : Nat, j < 4 → 0 ≤ (σa (h0 + 5) j).toInt ∧ (σa (h0 + 5) j).toInt ≤ 24) → (zz_HM σa (h0 + 4) = zz_wn (zz_HM σ (h0 + 4)) sh.toInt bi.toInt) → (zz_HM σa (h0 + 5) = zz_wn (zz_HM σ (h0 + 5)) sh.toInt (if bi.toInt = 0 then 0 else nn.toInt)) → (∀ k : Nat, (k : Int) < ii.toInt → (σa (h0 + 6) (24 * sh.toInt.toNat + k)).toInt = 0) → (∀ i : Nat, i < 96 → (i < 24 * sh.toInt.toNat ∨ 24 * sh.toInt.toNat + 24 ≤ i) → σa (h0 + 6) i = σ (h0 + 6) i) → zz_P E σa H → va_S (zz_A E) s.heap H locs → lv_has ls 5 [(4, .int ii), (0, .ref h0), (1, .int sh), (2, .int bi), (3, .int nn)] → W p l e (headSpec wzX9_sheet ({ frames := 2, cells := 0, slots := 0, locals := 42 })).room s m args below meth c H locs 0 0 (MQ below (va_Qi (fun r σ1 => zz_ch (fun a k => (a = h0 + 3 ∨ (h0 + 7 ≤ a ∧ a ≤ h0 + 11)) ∨ a = h0 + 4 ∨ a = h0 + 5 ∨ a = h0 + 6) σ σ1 ∧ (zz_IM σ1 h0 ∧ zz_sheet sh.toInt bi.toInt nn.toInt r.toInt ∧ (r.toInt < 0 → zz_HM σ1 (h0 + 4) = zz_HM σ (h0 + 4) ∧ zz_HM σ1 (h0 + 5) = zz_HM σ (h0 + 5) ∧ zz_CM σ1 (h0 + 6) = zz_CM σ (h0 + 6)) ∧ (0 ≤ r.toInt → zz_HM σ1 (h0 + 4) = zz_wn (zz_HM σ (h0 + 4)) sh.toInt bi.toInt ∧ zz_HM σ1 (h0 + 5) = zz_wn (zz_HM σ (h0 + 5)) sh.toInt (if bi.toInt = 0 then 0 else nn.toInt) ∧ zz_CM σ1 (h0 + 6) = zz_cz (zz_CM σ (h0 + 6)) sh.toInt))) (zz_B E) (zz_A E)) args s 0 0 (zz_A E)) (F0 m 93 ls []) := by
                    intro n
                    induction n with
                    | zero => intro ii σa H locs ls hm; exact absurd hm (Nat.not_lt_zero _)
                    | succ n ih93 =>
                      intro ii σa H locs ls hm hC f93_0 f93_1 f93_2 f93_3 f93_4 f93_5 hP hS hl
                      refine lv_iload hx hb dX9_sheet_93 (lv_at hl 0 rfl) ?_
                      refine lv_bipush (v := 24) hx hb dX9_sheet_95 (by decide) ?_
                      refine lv_icmp_ge (tgt := 119) hx hb dX9_sheet_97 (by decide) (fun c180 => ?_) (fun c180 => ?_)
                      · have c180 := zz_leT c180
                        refine lv_iconst (v := 1) hx hb dX9_sheet_119 (by decide) ?_
                        exact zz_iret hx hb hr hlocks hK hP hS dX9_sheet_120 (by exact ⟨hC, ⟨hJ.1.keep (fun k => hC _ _ (by first | (dsimp only; omega) | omega)), hJ.2.1.keep (fun k => hC _ _ (by first | (dsimp only; omega) | omega)), f93_1, (by rw [hC _ _ (by first | (dsimp only; omega) | omega)]; exact htr)⟩, (by unfold zz_sheet; omega), (fun q => absurd q (by omega)), (fun _ => ⟨f93_2, f93_3, zz_CM.cz (j0 := sh.toInt.toNat) (by omega) (by omega) (fun k hk => f93_4 k (by omega)) (fun i hi hq => f93_5 i hi (by omega))⟩)⟩)
                      · have c180 := zz_nleT c180
                        refine lv_aload_n hx hb dX9_sheet_100 rfl (lv_at hl 1 rfl) ?_
                        refine zz_getr hx hb hts hi9 hown hK hP (g0.1) rfl 6 (by decide) (hts (.fieldLink RX9 25 "NoonLawModel" "cells" "[I") (List.mem_cons_of_mem _ bm_98)) rfl rfl dX9_sheet_101 ?_
                        refine lv_bipush (v := 24) hx hb dX9_sheet_104 (by decide) ?_
                        refine lv_iload_n hx hb dX9_sheet_106 rfl (lv_at hl 2 rfl) ?_
                        refine lv_imul hx hb dX9_sheet_107 ?_
                        refine lv_topi (fun n181 e181 => ?_)
                        have f181 : n181.toInt = 24 * (sh).toInt := zz_mulL 24 e181 (by decide) (by omega) (by omega)
                        refine lv_iload hx hb dX9_sheet_108 (lv_at hl 0 rfl) ?_
                        refine lv_iadd hx hb dX9_sheet_110 ?_
                        refine lv_topi (fun n182 e182 => ?_)
                        have f182 : n182.toInt = (n181).toInt + (ii).toInt := zz_addT e182 (by omega) (by omega)
                        refine lv_iconst (v := 0) hx hb dX9_sheet_111 (by decide) ?_
                        refine zz_iast hx hb hK hP hS (g0.2.2.2.2.2.2.1) (by omega) (by omega) dX9_sheet_112 (fun j183 σ183 H locs q183 r183 w183 hP1 hS1 => ?_)
                        replace hP := hP1
                        replace hS := hS1
                        clear hP1 hS1
                        replace hC := hC.u w183 (dS28_10 h0)
                        obtain ⟨n184, e184⟩ : ∃ y : Int32, y = ii + 1 := ⟨_, rfl⟩
                        have f184 : n184.toInt = (ii).toInt + (1) := by have h9 := zz_addT e184 (by omega) (by omega); omega
                        refine lv_iinc (v := n184) (lv' := [(4, .int n184), (0, .ref h0), (1, .int sh), (2, .int bi), (3, .int nn)]) hx hb dX9_sheet_113 hl (k := 0) rfl (by rw [e184]; rfl) (by decide) rfl (fun ls hl => ?_)
                        refine lv_goto (tgt := 93) hx hb dX9_sheet_116 (by decide) ?_
                        exact ih93 n184 σ183 _ _ _ (by omega) hC (by first | omega | exact hI | exact hT) (by intro j hj; rw [w183, zz_un (by omega)]; exact f93_1 j hj) (by rw [zz_HMo (a := h0 + 4) w183 (by omega)]; exact f93_2) (by rw [zz_HMo (a := h0 + 5) w183 (by omega)]; exact f93_3) (by intro k hk; exact if hq : 24 * sh.toInt.toNat + k = j183 then (by rw [hq, w183, zz_us]; exact k_0) else (by rw [w183, zz_un (by omega)]; exact f93_4 k (by omega))) (by intro i hi hq; rw [w183, zz_un (by omega)]; exact f93_5 i hi hq) hP hS (lv_sub hl [0, 1, 2, 3, 4] rfl)
                  exact J93 _ 0 σ179 _ _ _ (Nat.lt_succ_self _) hC (by first | omega | exact hI | exact hT) (by intro j hj; exact if hq : j = j179 then (by rw [hq, w179, zz_us]; omega) else (by rw [w179, zz_un (by omega), w171, zz_un (by omega)]; exact hz5 j hj)) (by rw [zz_HMo (a := h0 + 4) w179 (by omega), zz_HMw w171 (by omega : (j171 : Int) = sh.toInt) (by omega)]) (by rw [zz_HMw w179 (by omega : (j179 : Int) = sh.toInt) (by omega), zz_HMo (a := h0 + 5) w171 (by omega), if_pos (by omega), k_0]) (by intro k hk; omega) (by intro i hi hq; rw [w179, zz_un (by omega), w171, zz_un (by omega)]) hP hS (lv_sub hl [0, 1, 2, 3, 4] rfl)
              · have c170 := zz_nleT c170
                refine lv_iload_n hx hb dX9_sheet_55 rfl (lv_at hl 3 rfl) ?_
                refine lv_bipush (v := 24) hx hb dX9_sheet_56 (by decide) ?_
                refine lv_icmp_le (tgt := 68) hx hb dX9_sheet_58 (by decide) (fun c185 => ?_) (fun c185 => ?_)
                · have c185 := zz_leT c185
                  refine lv_aload_n hx hb dX9_sheet_68 rfl (lv_at hl 0 rfl) ?_
                  refine zz_getr hx hb hts hi9 hown hK hP (g0.1) rfl 4 (by decide) (hts (.fieldLink RX9 19 "NoonLawModel" "bitsOf" "[I") (List.mem_cons_of_mem _ bm_96)) rfl rfl dX9_sheet_69 ?_
                  refine lv_iload_n hx hb dX9_sheet_72 rfl (lv_at hl 1 rfl) ?_
                  refine lv_iload_n hx hb dX9_sheet_73 rfl (lv_at hl 2 rfl) ?_
                  refine zz_iast hx hb hK hP hS (g0.2.2.2.2.1) (by omega) (by omega) dX9_sheet_74 (fun j186 σ186 H locs q186 r186 w186 hP1 hS1 => ?_)
                  replace hP := hP1
                  replace hS := hS1
                  clear hP1 hS1
                  replace hC := hC.u w186 (dS28_8 h0)
                  refine lv_aload_n hx hb dX9_sheet_75 rfl (lv_at hl 0 rfl) ?_
                  refine zz_getr hx hb hts hi9 hown hK hP (g0.1) rfl 5 (by decide) (hts (.fieldLink RX9 22 "NoonLawModel" "sizeOf" "[I") (List.mem_cons_of_mem _ bm_97)) rfl rfl dX9_sheet_76 ?_
                  refine lv_iload_n hx hb dX9_sheet_79 rfl (lv_at hl 1 rfl) ?_
                  refine lv_iload_n hx hb dX9_sheet_80 rfl (lv_at hl 2 rfl) ?_
                  refine lv_if_ne (tgt := 88) hx hb dX9_sheet_81 (by decide) (fun c187 => ?_) (fun c187 => ?_)
                  · have c187 := zz_neT c187
                    refine lv_iload_n hx hb dX9_sheet_88 rfl (lv_at hl 3 rfl) ?_
                    refine zz_iast hx hb hK hP hS (g0.2.2.2.2.2.1) (by omega) (by omega) dX9_sheet_89 (fun j188 σ188 H locs q188 r188 w188 hP1 hS1 => ?_)
                    replace hP := hP1
                    replace hS := hS1
                    clear hP1 hS1
                    replace hC := hC.u w188 (dS28_9 h0)
                    refine lv_iconst (v := 0) hx hb dX9_sheet_90 (by decide) ?_
                    refine lv_istore (lv' := [(4, .int 0), (0, .ref h0), (1, .int sh), (2, .int bi), (3, .int nn)]) hx hb dX9_sheet_91 hl (by decide) rfl (fun ls hl => ?_)
                    have J93 : ∀ (n : Nat) (ii : Int32) (σa : zz_S) (H : Heap) (locs : List Loc) (ls : Array Slot), ((24 - ii.toInt).toNat) < n → (zz_ch (fun a k => (a = h0 + 3 ∨ (h0 + 7 ≤ a ∧ a ≤ h0 + 11)) ∨ a = h0 + 4 ∨ a = h0 + 5 ∨ a = h0 + 6) σ σa) → (0 ≤ ii.toInt) → (∀ j : Nat, j < 4 → 0 ≤ (σa (h0 + 5) j).toInt ∧ (σa (h0 + 5) j).toInt ≤ 24) → (zz_HM σa (h0 + 4) = zz_wn (zz_HM σ (h0 + 4)) sh.toInt bi.toInt) → (zz_HM σa (h0 + 5) = zz_wn (zz_HM σ (h0 + 5)) sh.toInt (if bi.toInt = 0 then 0 else nn.toInt)) → (∀ k : Nat, (k : Int) < ii.toInt → (σa (h0 + 6) (24 * sh.toInt.toNat + k)).toInt = 0) → (∀ i : Nat, i < 96 → (i < 24 * sh.toInt.toNat ∨ 24 * sh.toInt.toNat + 24 ≤ i) → σa (h0 + 6) i = σ (h0 + 6) i) → zz_P E σa H → va_S (zz_A E) s.heap H locs → lv_has ls 5 [(4, .int ii), (0, .ref h0), (1, .int sh), (2, .int bi), (3, .int nn)] → W p l e (headSpec wzX9_sheet ({ frames := 2, cells := 0, slots := 0, locals := 42 })).room s m args below meth c H locs 0 0 (MQ below (va_Qi (fun r σ1 => zz_ch (fun a k => (a = h0 + 3 ∨ (h0 + 7 ≤ a ∧ a ≤ h0 + 11)) ∨ a = h0 + 4 ∨ a = h0 + 5 ∨ a = h0 + 6) σ σ1 ∧ (zz_IM σ1 h0 ∧ zz_sheet sh.toInt bi.toInt nn.toInt r.toInt ∧ (r.toInt < 0 → zz_HM σ1 (h0 + 4) = zz_HM σ (h0 + 4) ∧ zz_HM σ1 (h0 + 5) = zz_HM σ (h0 + 5) ∧ zz_CM σ1 (h0 + 6) = zz_CM σ (h0 + 6)) ∧ (0 ≤ r.toInt → zz_HM σ1 (h0 + 4) = zz_wn (zz_HM σ (h0 + 4)) sh.toInt bi.toInt ∧ zz_HM σ1 (h0 + 5) = zz_wn (zz_HM σ (h0 + 5)) sh.toInt (if bi.toInt = 0 then 0 else nn.toInt) ∧ zz_CM σ1 (h0 + 6) = zz_cz (zz_CM σ (h0 + 6)) sh.toInt))) (zz_B E) (zz_A E)) args s 0 0 (zz_A E)) (F0 m 93 ls []) := by
                      intro n
                      induction n with
                      | zero => intro ii σa H locs ls hm; exact absurd hm (Nat.not_lt_zero _)
                      | succ n ih93 =>
                        intro ii σa H locs ls hm hC f93_0 f93_1 f93_2 f93_3 f93_4 f93_5 hP hS hl
                        refine lv_iload hx hb dX9_sheet_93 (lv_at hl 0 rfl) ?_
                        refine lv_bipush (v := 24) hx hb dX9_sheet_95 (by decide) ?_
                        refine lv_icmp_ge (tgt := 119) hx hb dX9_sheet_97 (by decide) (fun c189 => ?_) (fun c189 => ?_)
                        · have c189 := zz_leT c189
                          refine lv_iconst (v := 1) hx hb dX9_sheet_119 (by decide) ?_
                          exact zz_iret hx hb hr hlocks hK hP hS dX9_sheet_120 (by exact ⟨hC, ⟨hJ.1.keep (fun k => hC _ _ (by first | (dsimp only; omega) | omega)), hJ.2.1.keep (fun k => hC _ _ (by first | (dsimp only; omega) | omega)), f93_1, (by rw [hC _ _ (by first | (dsimp only; omega) | omega)]; exact htr)⟩, (by unfold zz_sheet; omega), (fun q => absurd q (by omega)), (fun _ => ⟨f93_2, f93_3, zz_CM.cz (j0 := sh.toInt.toNat) (by omega) (by omega) (fun k hk => f93_4 k (by omega)) (fun i hi hq => f93_5 i hi (by omega))⟩)⟩)
                        · have c189 := zz_nleT c189
                          refine lv_aload_n hx hb dX9_sheet_100 rfl (lv_at hl 1 rfl) ?_
                          refine zz_getr hx hb hts hi9 hown hK hP (g0.1) rfl 6 (by decide) (hts (.fieldLink RX9 25 "NoonLawModel" "cells" "[I") (List.mem_cons_of_mem _ bm_98)) rfl rfl dX9_sheet_101 ?_
                          refine lv_bipush (v := 24) hx hb dX9_sheet_104 (by decide) ?_
                          refine lv_iload_n hx hb dX9_sheet_106 rfl (lv_at hl 2 rfl) ?_
                          refine lv_imul hx hb dX9_sheet_107 ?_
                          refine lv_topi (fun n190 e190 => ?_)
                          have f190 : n190.toInt = 24 * (sh).toInt := zz_mulL 24 e190 (by decide) (by omega) (by omega)
                          refine lv_iload hx hb dX9_sheet_108 (lv_at hl 0 rfl) ?_
                          refine lv_iadd hx hb dX9_sheet_110 ?_
                          refine lv_topi (fun n191 e191 => ?_)
                          have f191 : n191.toInt = (n190).toInt + (ii).toInt := zz_addT e191 (by omega) (by omega)
                          refine lv_iconst (v := 0) hx hb dX9_sheet_111 (by decide) ?_
                          refine zz_iast hx hb hK hP hS (g0.2.2.2.2.2.2.1) (by omega) (by omega) dX9_sheet_112 (fun j192 σ192 H locs q192 r192 w192 hP1 hS1 => ?_)
                          replace hP := hP1
                          replace hS := hS1
                          clear hP1 hS1
                          replace hC := hC.u w192 (dS28_10 h0)
                          obtain ⟨n193, e193⟩ : ∃ y : Int32, y = ii + 1 := ⟨_, rfl⟩
                          have f193 : n193.toInt = (ii).toInt + (1) := by have h9 := zz_addT e193 (by omega) (by omega); omega
                          refine lv_iinc (v := n193) (lv' := [(4, .int n193), (0, .ref h0), (1, .int sh), (2, .int bi), (3, .int nn)]) hx hb dX9_sheet_113 hl (k := 0) rfl (by rw [e193]; rfl) (by decide) rfl (fun ls hl => ?_)
                          refine lv_goto (tgt := 93) hx hb dX9_sheet_116 (by decide) ?_
                          exact ih93 n193 σ192 _ _ _ (by omega) hC (by first | omega | exact hI | exact hT) (by intro j hj; rw [w192, zz_un (by omega)]; exact f93_1 j hj) (by rw [zz_HMo (a := h0 + 4) w192 (by omega)]; exact f93_2) (by rw [zz_HMo (a := h0 + 5) w192 (by omega)]; exact f93_3) (by intro k hk; exact if hq : 24 * sh.toInt.toNat + k = j192 then (by rw [hq, w192, zz_us]; exact k_0) else (by rw [w192, zz_un (by omega)]; exact f93_4 k (by omega))) (by intro i hi hq; rw [w192, zz_un (by omega)]; exact f93_5 i hi hq) hP hS (lv_sub hl [0, 1, 2, 3, 4] rfl)
                    exact J93 _ 0 σ188 _ _ _ (Nat.lt_succ_self _) hC (by first | omega | exact hI | exact hT) (by intro j hj; exact if hq : j = j188 then (by rw [hq, w188, zz_us]; omega) else (by rw [w188, zz_un (by omega), w186, zz_un (by omega)]; exact hz5 j hj)) (by rw [zz_HMo (a := h0 + 4) w188 (by omega), zz_HMw w186 (by omega : (j186 : Int) = sh.toInt) (by omega)]) (by rw [zz_HMw w188 (by omega : (j188 : Int) = sh.toInt) (by omega), zz_HMo (a := h0 + 5) w186 (by omega), if_neg (by omega)]) (by intro k hk; omega) (by intro i hi hq; rw [w188, zz_un (by omega), w186, zz_un (by omega)]) hP hS (lv_sub hl [0, 1, 2, 3, 4] rfl)
                  · have c187 := zz_eqT c187
                    refine lv_iconst (v := 0) hx hb dX9_sheet_84 (by decide) ?_
                    refine lv_goto (tgt := 89) hx hb dX9_sheet_85 (by decide) ?_
                    refine zz_iast hx hb hK hP hS (g0.2.2.2.2.2.1) (by omega) (by omega) dX9_sheet_89 (fun j194 σ194 H locs q194 r194 w194 hP1 hS1 => ?_)
                    replace hP := hP1
                    replace hS := hS1
                    clear hP1 hS1
                    replace hC := hC.u w194 (dS28_9 h0)
                    refine lv_iconst (v := 0) hx hb dX9_sheet_90 (by decide) ?_
                    refine lv_istore (lv' := [(4, .int 0), (0, .ref h0), (1, .int sh), (2, .int bi), (3, .int nn)]) hx hb dX9_sheet_91 hl (by decide) rfl (fun ls hl => ?_)
                    have J93 : ∀ (n : Nat) (ii : Int32) (σa : zz_S) (H : Heap) (locs : List Loc) (ls : Array Slot), ((24 - ii.toInt).toNat) < n → (zz_ch (fun a k => (a = h0 + 3 ∨ (h0 + 7 ≤ a ∧ a ≤ h0 + 11)) ∨ a = h0 + 4 ∨ a = h0 + 5 ∨ a = h0 + 6) σ σa) → (0 ≤ ii.toInt) → (∀ j : Nat, j < 4 → 0 ≤ (σa (h0 + 5) j).toInt ∧ (σa (h0 + 5) j).toInt ≤ 24) → (zz_HM σa (h0 + 4) = zz_wn (zz_HM σ (h0 + 4)) sh.toInt bi.toInt) → (zz_HM σa (h0 + 5) = zz_wn (zz_HM σ (h0 + 5)) sh.toInt (if bi.toInt = 0 then 0 else nn.toInt)) → (∀ k : Nat, (k : Int) < ii.toInt → (σa (h0 + 6) (24 * sh.toInt.toNat + k)).toInt = 0) → (∀ i : Nat, i < 96 → (i < 24 * sh.toInt.toNat ∨ 24 * sh.toInt.toNat + 24 ≤ i) → σa (h0 + 6) i = σ (h0 + 6) i) → zz_P E σa H → va_S (zz_A E) s.heap H locs → lv_has ls 5 [(4, .int ii), (0, .ref h0), (1, .int sh), (2, .int bi), (3, .int nn)] → W p l e (headSpec wzX9_sheet ({ frames := 2, cells := 0, slots := 0, locals := 42 })).room s m args below meth c H locs 0 0 (MQ below (va_Qi (fun r σ1 => zz_ch (fun a k => (a = h0 + 3 ∨ (h0 + 7 ≤ a ∧ a ≤ h0 + 11)) ∨ a = h0 + 4 ∨ a = h0 + 5 ∨ a = h0 + 6) σ σ1 ∧ (zz_IM σ1 h0 ∧ zz_sheet sh.toInt bi.toInt nn.toInt r.toInt ∧ (r.toInt < 0 → zz_HM σ1 (h0 + 4) = zz_HM σ (h0 + 4) ∧ zz_HM σ1 (h0 + 5) = zz_HM σ (h0 + 5) ∧ zz_CM σ1 (h0 + 6) = zz_CM σ (h0 + 6)) ∧ (0 ≤ r.toInt → zz_HM σ1 (h0 + 4) = zz_wn (zz_HM σ (h0 + 4)) sh.toInt bi.toInt ∧ zz_HM σ1 (h0 + 5) = zz_wn (zz_HM σ (h0 + 5)) sh.toInt (if bi.toInt = 0 then 0 else nn.toInt) ∧ zz_CM σ1 (h0 + 6) = zz_cz (zz_CM σ (h0 + 6)) sh.toInt))) (zz_B E) (zz_A E)) args s 0 0 (zz_A E)) (F0 m 93 ls []) := by
                      intro n
                      induction n with
                      | zero => intro ii σa H locs ls hm; exact absurd hm (Nat.not_lt_zero _)
                      | succ n ih93 =>
                        intro ii σa H locs ls hm hC f93_0 f93_1 f93_2 f93_3 f93_4 f93_5 hP hS hl
                        refine lv_iload hx hb dX9_sheet_93 (lv_at hl 0 rfl) ?_
                        refine lv_bipush (v := 24) hx hb dX9_sheet_95 (by decide) ?_
                        refine lv_icmp_ge (tgt := 119) hx hb dX9_sheet_97 (by decide) (fun c195 => ?_) (fun c195 => ?_)
                        · have c195 := zz_leT c195
                          refine lv_iconst (v := 1) hx hb dX9_sheet_119 (by decide) ?_
                          exact zz_iret hx hb hr hlocks hK hP hS dX9_sheet_120 (by exact ⟨hC, ⟨hJ.1.keep (fun k => hC _ _ (by first | (dsimp only; omega) | omega)), hJ.2.1.keep (fun k => hC _ _ (by first | (dsimp only; omega) | omega)), f93_1, (by rw [hC _ _ (by first | (dsimp only; omega) | omega)]; exact htr)⟩, (by unfold zz_sheet; omega), (fun q => absurd q (by omega)), (fun _ => ⟨f93_2, f93_3, zz_CM.cz (j0 := sh.toInt.toNat) (by omega) (by omega) (fun k hk => f93_4 k (by omega)) (fun i hi hq => f93_5 i hi (by omega))⟩)⟩)
                        · have c195 := zz_nleT c195
                          refine lv_aload_n hx hb dX9_sheet_100 rfl (lv_at hl 1 rfl) ?_
                          refine zz_getr hx hb hts hi9 hown hK hP (g0.1) rfl 6 (by decide) (hts (.fieldLink RX9 25 "NoonLawModel" "cells" "[I") (List.mem_cons_of_mem _ bm_98)) rfl rfl dX9_sheet_101 ?_
                          refine lv_bipush (v := 24) hx hb dX9_sheet_104 (by decide) ?_
                          refine lv_iload_n hx hb dX9_sheet_106 rfl (lv_at hl 2 rfl) ?_
                          refine lv_imul hx hb dX9_sheet_107 ?_
                          refine lv_topi (fun n196 e196 => ?_)
                          have f196 : n196.toInt = 24 * (sh).toInt := zz_mulL 24 e196 (by decide) (by omega) (by omega)
                          refine lv_iload hx hb dX9_sheet_108 (lv_at hl 0 rfl) ?_
                          refine lv_iadd hx hb dX9_sheet_110 ?_
                          refine lv_topi (fun n197 e197 => ?_)
                          have f197 : n197.toInt = (n196).toInt + (ii).toInt := zz_addT e197 (by omega) (by omega)
                          refine lv_iconst (v := 0) hx hb dX9_sheet_111 (by decide) ?_
                          refine zz_iast hx hb hK hP hS (g0.2.2.2.2.2.2.1) (by omega) (by omega) dX9_sheet_112 (fun j198 σ198 H locs q198 r198 w198 hP1 hS1 => ?_)
                          replace hP := hP1
                          replace hS := hS1
                          clear hP1 hS1
                          replace hC := hC.u w198 (dS28_10 h0)
                          obtain ⟨n199, e199⟩ : ∃ y : Int32, y = ii + 1 := ⟨_, rfl⟩
                          have f199 : n199.toInt = (ii).toInt + (1) := by have h9 := zz_addT e199 (by omega) (by omega); omega
                          refine lv_iinc (v := n199) (lv' := [(4, .int n199), (0, .ref h0), (1, .int sh), (2, .int bi), (3, .int nn)]) hx hb dX9_sheet_113 hl (k := 0) rfl (by rw [e199]; rfl) (by decide) rfl (fun ls hl => ?_)
                          refine lv_goto (tgt := 93) hx hb dX9_sheet_116 (by decide) ?_
                          exact ih93 n199 σ198 _ _ _ (by omega) hC (by first | omega | exact hI | exact hT) (by intro j hj; rw [w198, zz_un (by omega)]; exact f93_1 j hj) (by rw [zz_HMo (a := h0 + 4) w198 (by omega)]; exact f93_2) (by rw [zz_HMo (a := h0 + 5) w198 (by omega)]; exact f93_3) (by intro k hk; exact if hq : 24 * sh.toInt.toNat + k = j198 then (by rw [hq, w198, zz_us]; exact k_0) else (by rw [w198, zz_un (by omega)]; exact f93_4 k (by omega))) (by intro i hi hq; rw [w198, zz_un (by omega)]; exact f93_5 i hi hq) hP hS (lv_sub hl [0, 1, 2, 3, 4] rfl)
                    exact J93 _ 0 σ194 _ _ _ (Nat.lt_succ_self _) hC (by first | omega | exact hI | exact hT) (by intro j hj; exact if hq : j = j194 then (by rw [hq, w194, zz_us]; omega) else (by rw [w194, zz_un (by omega), w186, zz_un (by omega)]; exact hz5 j hj)) (by rw [zz_HMo (a := h0 + 4) w194 (by omega), zz_HMw w186 (by omega : (j186 : Int) = sh.toInt) (by omega)]) (by rw [zz_HMw w194 (by omega : (j194 : Int) = sh.toInt) (by omega), zz_HMo (a := h0 + 5) w186 (by omega), if_pos (by omega), k_0]) (by intro k hk; omega) (by intro i hi hq; rw [w194, zz_un (by omega), w186, zz_un (by omega)]) hP hS (lv_sub hl [0, 1, 2, 3, 4] rfl)
                · have c185 := zz_nleT c185
                  refine lv_aload_n hx hb dX9_sheet_61 rfl (lv_at hl 0 rfl) ?_
                  refine lv_ldc (v := (-1000000001)) hx hb hown (hts (.constant RX9 93 (-1000000001)) (List.mem_cons_of_mem _ bm_138)) dX9_sheet_62 ?_
                  refine zz_callVi (As := [.int (-1000000001)]) (rest := []) ⟨hx, hb, hml, hown, hts⟩ hK hP hS (c_X9_error l E σ h0 (-1000000001) g0 (by omega)) (cwV 1 hts gX9_sheet_X9_error rfl rfl rfl (by decide +kernel) ⟨Nat.le_of_ble_eq_true rfl, Nat.le_of_ble_eq_true rfl⟩) (g0.1) rfl rfl hl.1 rfl (Nat.le_of_ble_eq_true rfl) dX9_sheet_64 ⟨Nat.zero_le _, Nat.zero_le _⟩ (fun r200 σ200 H locs q200 hP1 hS1 => ?_)
                  replace hP := hP1
                  replace hS := hS1
                  clear hP1 hS1
                  try dsimp only at q200
                  obtain ⟨w200, f200⟩ := q200
                  replace hC := hC.tr (w200.mono (dS28_7 h0))
                  exact zz_iret hx hb hr hlocks hK hP hS dX9_sheet_67 (by exact ⟨hC, (hJ.soft (w200.mono (by intro a k h; omega))), (by unfold zz_sheet; omega), (fun _ => ⟨zz_HM.eq (fun j hj => w200 _ _ (by first | (dsimp only; omega) | omega)), zz_HM.eq (fun j hj => w200 _ _ (by first | (dsimp only; omega) | omega)), zz_CM.eq (fun k hk => w200 _ _ (by first | (dsimp only; omega) | omega))⟩), (fun q => absurd q (by omega))⟩)
            · have c169 := zz_nleT c169
              refine lv_aload_n hx hb dX9_sheet_44 rfl (lv_at hl 0 rfl) ?_
              refine lv_ldc (v := (-1000000003)) hx hb hown (hts (.constant RX9 178 (-1000000003)) (List.mem_cons_of_mem _ bm_592)) dX9_sheet_45 ?_
              refine zz_callVi (As := [.int (-1000000003)]) (rest := []) ⟨hx, hb, hml, hown, hts⟩ hK hP hS (c_X9_error l E σ h0 (-1000000003) g0 (by omega)) (cwV 1 hts gX9_sheet_X9_error rfl rfl rfl (by decide +kernel) ⟨Nat.le_of_ble_eq_true rfl, Nat.le_of_ble_eq_true rfl⟩) (g0.1) rfl rfl hl.1 rfl (Nat.le_of_ble_eq_true rfl) dX9_sheet_47 ⟨Nat.zero_le _, Nat.zero_le _⟩ (fun r201 σ201 H locs q201 hP1 hS1 => ?_)
              replace hP := hP1
              replace hS := hS1
              clear hP1 hS1
              try dsimp only at q201
              obtain ⟨w201, f201⟩ := q201
              replace hC := hC.tr (w201.mono (dS28_7 h0))
              exact zz_iret hx hb hr hlocks hK hP hS dX9_sheet_50 (by exact ⟨hC, (hJ.soft (w201.mono (by intro a k h; omega))), (by unfold zz_sheet; omega), (fun _ => ⟨zz_HM.eq (fun j hj => w201 _ _ (by first | (dsimp only; omega) | omega)), zz_HM.eq (fun j hj => w201 _ _ (by first | (dsimp only; omega) | omega)), zz_CM.eq (fun k hk => w201 _ _ (by first | (dsimp only; omega) | omega))⟩), (fun q => absurd q (by omega))⟩)
        · have c136 := zz_neT c136
          refine lv_iload_n hx hb dX9_sheet_23 rfl (lv_at hl 2 rfl) ?_
          refine lv_bipush (v := 32) hx hb dX9_sheet_24 (by decide) ?_
          refine lv_icmp_eq (tgt := 36) hx hb dX9_sheet_26 (by decide) (fun c202 => ?_) (fun c202 => ?_)
          · have c202 := zz_eqT c202
            refine lv_iload_n hx hb dX9_sheet_36 rfl (lv_at hl 2 rfl) ?_
            refine lv_if_le (tgt := 51) hx hb dX9_sheet_37 (by decide) (fun c203 => ?_) (fun c203 => ?_)
            · have c203 := zz_leT c203
              refine lv_iload_n hx hb dX9_sheet_51 rfl (lv_at hl 2 rfl) ?_
              refine lv_if_le (tgt := 68) hx hb dX9_sheet_52 (by decide) (fun c204 => ?_) (fun c204 => ?_)
              · have c204 := zz_leT c204
                refine lv_aload_n hx hb dX9_sheet_68 rfl (lv_at hl 0 rfl) ?_
                refine zz_getr hx hb hts hi9 hown hK hP (g0.1) rfl 4 (by decide) (hts (.fieldLink RX9 19 "NoonLawModel" "bitsOf" "[I") (List.mem_cons_of_mem _ bm_96)) rfl rfl dX9_sheet_69 ?_
                refine lv_iload_n hx hb dX9_sheet_72 rfl (lv_at hl 1 rfl) ?_
                refine lv_iload_n hx hb dX9_sheet_73 rfl (lv_at hl 2 rfl) ?_
                refine zz_iast hx hb hK hP hS (g0.2.2.2.2.1) (by omega) (by omega) dX9_sheet_74 (fun j205 σ205 H locs q205 r205 w205 hP1 hS1 => ?_)
                replace hP := hP1
                replace hS := hS1
                clear hP1 hS1
                replace hC := hC.u w205 (dS28_8 h0)
                refine lv_aload_n hx hb dX9_sheet_75 rfl (lv_at hl 0 rfl) ?_
                refine zz_getr hx hb hts hi9 hown hK hP (g0.1) rfl 5 (by decide) (hts (.fieldLink RX9 22 "NoonLawModel" "sizeOf" "[I") (List.mem_cons_of_mem _ bm_97)) rfl rfl dX9_sheet_76 ?_
                refine lv_iload_n hx hb dX9_sheet_79 rfl (lv_at hl 1 rfl) ?_
                refine lv_iload_n hx hb dX9_sheet_80 rfl (lv_at hl 2 rfl) ?_
                refine lv_if_ne (tgt := 88) hx hb dX9_sheet_81 (by decide) (fun c206 => ?_) (fun c206 => ?_)
                · have c206 := zz_neT c206
                  refine lv_iload_n hx hb dX9_sheet_88 rfl (lv_at hl 3 rfl) ?_
                  refine zz_iast hx hb hK hP hS (g0.2.2.2.2.2.1) (by omega) (by omega) dX9_sheet_89 (fun j207 σ207 H locs q207 r207 w207 hP1 hS1 => ?_)
                  replace hP := hP1
                  replace hS := hS1
                  clear hP1 hS1
                  replace hC := hC.u w207 (dS28_9 h0)
                  refine lv_iconst (v := 0) hx hb dX9_sheet_90 (by decide) ?_
                  refine lv_istore (lv' := [(4, .int 0), (0, .ref h0), (1, .int sh), (2, .int bi), (3, .int nn)]) hx hb dX9_sheet_91 hl (by decide) rfl (fun ls hl => ?_)
                  have J93 : ∀ (n : Nat) (ii : Int32) (σa : zz_S) (H : Heap) (locs : List Loc) (ls : Array Slot), ((24 - ii.toInt).toNat) < n → (zz_ch (fun a k => (a = h0 + 3 ∨ (h0 + 7 ≤ a ∧ a ≤ h0 + 11)) ∨ a = h0 + 4 ∨ a = h0 + 5 ∨ a = h0 + 6) σ σa) → (0 ≤ ii.toInt) → (∀ j : Nat, j < 4 → 0 ≤ (σa (h0 + 5) j).toInt ∧ (σa (h0 + 5) j).toInt ≤ 24) → (zz_HM σa (h0 + 4) = zz_wn (zz_HM σ (h0 + 4)) sh.toInt bi.toInt) → (zz_HM σa (h0 + 5) = zz_wn (zz_HM σ (h0 + 5)) sh.toInt (if bi.toInt = 0 then 0 else nn.toInt)) → (∀ k : Nat, (k : Int) < ii.toInt → (σa (h0 + 6) (24 * sh.toInt.toNat + k)).toInt = 0) → (∀ i : Nat, i < 96 → (i < 24 * sh.toInt.toNat ∨ 24 * sh.toInt.toNat + 24 ≤ i) → σa (h0 + 6) i = σ (h0 + 6) i) → zz_P E σa H → va_S (zz_A E) s.heap H locs → lv_has ls 5 [(4, .int ii), (0, .ref h0), (1, .int sh), (2, .int bi), (3, .int nn)] → W p l e (headSpec wzX9_sheet ({ frames := 2, cells := 0, slots := 0, locals := 42 })).room s m args below meth c H locs 0 0 (MQ below (va_Qi (fun r σ1 => zz_ch (fun a k => (a = h0 + 3 ∨ (h0 + 7 ≤ a ∧ a ≤ h0 + 11)) ∨ a = h0 + 4 ∨ a = h0 + 5 ∨ a = h0 + 6) σ σ1 ∧ (zz_IM σ1 h0 ∧ zz_sheet sh.toInt bi.toInt nn.toInt r.toInt ∧ (r.toInt < 0 → zz_HM σ1 (h0 + 4) = zz_HM σ (h0 + 4) ∧ zz_HM σ1 (h0 + 5) = zz_HM σ (h0 + 5) ∧ zz_CM σ1 (h0 + 6) = zz_CM σ (h0 + 6)) ∧ (0 ≤ r.toInt → zz_HM σ1 (h0 + 4) = zz_wn (zz_HM σ (h0 + 4)) sh.toInt bi.toInt ∧ zz_HM σ1 (h0 + 5) = zz_wn (zz_HM σ (h0 + 5)) sh.toInt (if bi.toInt = 0 then 0 else nn.toInt) ∧ zz_CM σ1 (h0 + 6) = zz_cz (zz_CM σ (h0 + 6)) sh.toInt))) (zz_B E) (zz_A E)) args s 0 0 (zz_A E)) (F0 m 93 ls []) := by
                    intro n
                    induction n with
                    | zero => intro ii σa H locs ls hm; exact absurd hm (Nat.not_lt_zero _)
                    | succ n ih93 =>
                      intro ii σa H locs ls hm hC f93_0 f93_1 f93_2 f93_3 f93_4 f93_5 hP hS hl
                      refine lv_iload hx hb dX9_sheet_93 (lv_at hl 0 rfl) ?_
                      refine lv_bipush (v := 24) hx hb dX9_sheet_95 (by decide) ?_
                      refine lv_icmp_ge (tgt := 119) hx hb dX9_sheet_97 (by decide) (fun c208 => ?_) (fun c208 => ?_)
                      · have c208 := zz_leT c208
                        refine lv_iconst (v := 1) hx hb dX9_sheet_119 (by decide) ?_
                        exact zz_iret hx hb hr hlocks hK hP hS dX9_sheet_120 (by exact ⟨hC, ⟨hJ.1.keep (fun k => hC _ _ (by first | (dsimp only; omega) | omega)), hJ.2.1.keep (fun k => hC _ _ (by first | (dsimp only; omega) | omega)), f93_1, (by rw [hC _ _ (by first | (dsimp only; omega) | omega)]; exact htr)⟩, (by unfold zz_sheet; omega), (fun q => absurd q (by omega)), (fun _ => ⟨f93_2, f93_3, zz_CM.cz (j0 := sh.toInt.toNat) (by omega) (by omega) (fun k hk => f93_4 k (by omega)) (fun i hi hq => f93_5 i hi (by omega))⟩)⟩)
                      · have c208 := zz_nleT c208
                        refine lv_aload_n hx hb dX9_sheet_100 rfl (lv_at hl 1 rfl) ?_
                        refine zz_getr hx hb hts hi9 hown hK hP (g0.1) rfl 6 (by decide) (hts (.fieldLink RX9 25 "NoonLawModel" "cells" "[I") (List.mem_cons_of_mem _ bm_98)) rfl rfl dX9_sheet_101 ?_
                        refine lv_bipush (v := 24) hx hb dX9_sheet_104 (by decide) ?_
                        refine lv_iload_n hx hb dX9_sheet_106 rfl (lv_at hl 2 rfl) ?_
                        refine lv_imul hx hb dX9_sheet_107 ?_
                        refine lv_topi (fun n209 e209 => ?_)
                        have f209 : n209.toInt = 24 * (sh).toInt := zz_mulL 24 e209 (by decide) (by omega) (by omega)
                        refine lv_iload hx hb dX9_sheet_108 (lv_at hl 0 rfl) ?_
                        refine lv_iadd hx hb dX9_sheet_110 ?_
                        refine lv_topi (fun n210 e210 => ?_)
                        have f210 : n210.toInt = (n209).toInt + (ii).toInt := zz_addT e210 (by omega) (by omega)
                        refine lv_iconst (v := 0) hx hb dX9_sheet_111 (by decide) ?_
                        refine zz_iast hx hb hK hP hS (g0.2.2.2.2.2.2.1) (by omega) (by omega) dX9_sheet_112 (fun j211 σ211 H locs q211 r211 w211 hP1 hS1 => ?_)
                        replace hP := hP1
                        replace hS := hS1
                        clear hP1 hS1
                        replace hC := hC.u w211 (dS28_10 h0)
                        obtain ⟨n212, e212⟩ : ∃ y : Int32, y = ii + 1 := ⟨_, rfl⟩
                        have f212 : n212.toInt = (ii).toInt + (1) := by have h9 := zz_addT e212 (by omega) (by omega); omega
                        refine lv_iinc (v := n212) (lv' := [(4, .int n212), (0, .ref h0), (1, .int sh), (2, .int bi), (3, .int nn)]) hx hb dX9_sheet_113 hl (k := 0) rfl (by rw [e212]; rfl) (by decide) rfl (fun ls hl => ?_)
                        refine lv_goto (tgt := 93) hx hb dX9_sheet_116 (by decide) ?_
                        exact ih93 n212 σ211 _ _ _ (by omega) hC (by first | omega | exact hI | exact hT) (by intro j hj; rw [w211, zz_un (by omega)]; exact f93_1 j hj) (by rw [zz_HMo (a := h0 + 4) w211 (by omega)]; exact f93_2) (by rw [zz_HMo (a := h0 + 5) w211 (by omega)]; exact f93_3) (by intro k hk; exact if hq : 24 * sh.toInt.toNat + k = j211 then (by rw [hq, w211, zz_us]; exact k_0) else (by rw [w211, zz_un (by omega)]; exact f93_4 k (by omega))) (by intro i hi hq; rw [w211, zz_un (by omega)]; exact f93_5 i hi hq) hP hS (lv_sub hl [0, 1, 2, 3, 4] rfl)
                  exact J93 _ 0 σ207 _ _ _ (Nat.lt_succ_self _) hC (by first | omega | exact hI | exact hT) (by intro j hj; exact if hq : j = j207 then (by rw [hq, w207, zz_us]; omega) else (by rw [w207, zz_un (by omega), w205, zz_un (by omega)]; exact hz5 j hj)) (by rw [zz_HMo (a := h0 + 4) w207 (by omega), zz_HMw w205 (by omega : (j205 : Int) = sh.toInt) (by omega)]) (by rw [zz_HMw w207 (by omega : (j207 : Int) = sh.toInt) (by omega), zz_HMo (a := h0 + 5) w205 (by omega), if_neg (by omega)]) (by intro k hk; omega) (by intro i hi hq; rw [w207, zz_un (by omega), w205, zz_un (by omega)]) hP hS (lv_sub hl [0, 1, 2, 3, 4] rfl)
                · have c206 := zz_eqT c206
                  refine lv_iconst (v := 0) hx hb dX9_sheet_84 (by decide) ?_
                  refine lv_goto (tgt := 89) hx hb dX9_sheet_85 (by decide) ?_
                  refine zz_iast hx hb hK hP hS (g0.2.2.2.2.2.1) (by omega) (by omega) dX9_sheet_89 (fun j213 σ213 H locs q213 r213 w213 hP1 hS1 => ?_)
                  replace hP := hP1
                  replace hS := hS1
                  clear hP1 hS1
                  replace hC := hC.u w213 (dS28_9 h0)
                  refine lv_iconst (v := 0) hx hb dX9_sheet_90 (by decide) ?_
                  refine lv_istore (lv' := [(4, .int 0), (0, .ref h0), (1, .int sh), (2, .int bi), (3, .int nn)]) hx hb dX9_sheet_91 hl (by decide) rfl (fun ls hl => ?_)
                  have J93 : ∀ (n : Nat) (ii : Int32) (σa : zz_S) (H : Heap) (locs : List Loc) (ls : Array Slot), ((24 - ii.toInt).toNat) < n → (zz_ch (fun a k => (a = h0 + 3 ∨ (h0 + 7 ≤ a ∧ a ≤ h0 + 11)) ∨ a = h0 + 4 ∨ a = h0 + 5 ∨ a = h0 + 6) σ σa) → (0 ≤ ii.toInt) → (∀ j : Nat, j < 4 → 0 ≤ (σa (h0 + 5) j).toInt ∧ (σa (h0 + 5) j).toInt ≤ 24) → (zz_HM σa (h0 + 4) = zz_wn (zz_HM σ (h0 + 4)) sh.toInt bi.toInt) → (zz_HM σa (h0 + 5) = zz_wn (zz_HM σ (h0 + 5)) sh.toInt (if bi.toInt = 0 then 0 else nn.toInt)) → (∀ k : Nat, (k : Int) < ii.toInt → (σa (h0 + 6) (24 * sh.toInt.toNat + k)).toInt = 0) → (∀ i : Nat, i < 96 → (i < 24 * sh.toInt.toNat ∨ 24 * sh.toInt.toNat + 24 ≤ i) → σa (h0 + 6) i = σ (h0 + 6) i) → zz_P E σa H → va_S (zz_A E) s.heap H locs → lv_has ls 5 [(4, .int ii), (0, .ref h0), (1, .int sh), (2, .int bi), (3, .int nn)] → W p l e (headSpec wzX9_sheet ({ frames := 2, cells := 0, slots := 0, locals := 42 })).room s m args below meth c H locs 0 0 (MQ below (va_Qi (fun r σ1 => zz_ch (fun a k => (a = h0 + 3 ∨ (h0 + 7 ≤ a ∧ a ≤ h0 + 11)) ∨ a = h0 + 4 ∨ a = h0 + 5 ∨ a = h0 + 6) σ σ1 ∧ (zz_IM σ1 h0 ∧ zz_sheet sh.toInt bi.toInt nn.toInt r.toInt ∧ (r.toInt < 0 → zz_HM σ1 (h0 + 4) = zz_HM σ (h0 + 4) ∧ zz_HM σ1 (h0 + 5) = zz_HM σ (h0 + 5) ∧ zz_CM σ1 (h0 + 6) = zz_CM σ (h0 + 6)) ∧ (0 ≤ r.toInt → zz_HM σ1 (h0 + 4) = zz_wn (zz_HM σ (h0 + 4)) sh.toInt bi.toInt ∧ zz_HM σ1 (h0 + 5) = zz_wn (zz_HM σ (h0 + 5)) sh.toInt (if bi.toInt = 0 then 0 else nn.toInt) ∧ zz_CM σ1 (h0 + 6) = zz_cz (zz_CM σ (h0 + 6)) sh.toInt))) (zz_B E) (zz_A E)) args s 0 0 (zz_A E)) (F0 m 93 ls []) := by
                    intro n
                    induction n with
                    | zero => intro ii σa H locs ls hm; exact absurd hm (Nat.not_lt_zero _)
                    | succ n ih93 =>
                      intro ii σa H locs ls hm hC f93_0 f93_1 f93_2 f93_3 f93_4 f93_5 hP hS hl
                      refine lv_iload hx hb dX9_sheet_93 (lv_at hl 0 rfl) ?_
                      refine lv_bipush (v := 24) hx hb dX9_sheet_95 (by decide) ?_
                      refine lv_icmp_ge (tgt := 119) hx hb dX9_sheet_97 (by decide) (fun c214 => ?_) (fun c214 => ?_)
                      · have c214 := zz_leT c214
                        refine lv_iconst (v := 1) hx hb dX9_sheet_119 (by decide) ?_
                        exact zz_iret hx hb hr hlocks hK hP hS dX9_sheet_120 (by exact ⟨hC, ⟨hJ.1.keep (fun k => hC _ _ (by first | (dsimp only; omega) | omega)), hJ.2.1.keep (fun k => hC _ _ (by first | (dsimp only; omega) | omega)), f93_1, (by rw [hC _ _ (by first | (dsimp only; omega) | omega)]; exact htr)⟩, (by unfold zz_sheet; omega), (fun q => absurd q (by omega)), (fun _ => ⟨f93_2, f93_3, zz_CM.cz (j0 := sh.toInt.toNat) (by omega) (by omega) (fun k hk => f93_4 k (by omega)) (fun i hi hq => f93_5 i hi (by omega))⟩)⟩)
                      · have c214 := zz_nleT c214
                        refine lv_aload_n hx hb dX9_sheet_100 rfl (lv_at hl 1 rfl) ?_
                        refine zz_getr hx hb hts hi9 hown hK hP (g0.1) rfl 6 (by decide) (hts (.fieldLink RX9 25 "NoonLawModel" "cells" "[I") (List.mem_cons_of_mem _ bm_98)) rfl rfl dX9_sheet_101 ?_
                        refine lv_bipush (v := 24) hx hb dX9_sheet_104 (by decide) ?_
                        refine lv_iload_n hx hb dX9_sheet_106 rfl (lv_at hl 2 rfl) ?_
                        refine lv_imul hx hb dX9_sheet_107 ?_
                        refine lv_topi (fun n215 e215 => ?_)
                        have f215 : n215.toInt = 24 * (sh).toInt := zz_mulL 24 e215 (by decide) (by omega) (by omega)
                        refine lv_iload hx hb dX9_sheet_108 (lv_at hl 0 rfl) ?_
                        refine lv_iadd hx hb dX9_sheet_110 ?_
                        refine lv_topi (fun n216 e216 => ?_)
                        have f216 : n216.toInt = (n215).toInt + (ii).toInt := zz_addT e216 (by omega) (by omega)
                        refine lv_iconst (v := 0) hx hb dX9_sheet_111 (by decide) ?_
                        refine zz_iast hx hb hK hP hS (g0.2.2.2.2.2.2.1) (by omega) (by omega) dX9_sheet_112 (fun j217 σ217 H locs q217 r217 w217 hP1 hS1 => ?_)
                        replace hP := hP1
                        replace hS := hS1
                        clear hP1 hS1
                        replace hC := hC.u w217 (dS28_10 h0)
                        obtain ⟨n218, e218⟩ : ∃ y : Int32, y = ii + 1 := ⟨_, rfl⟩
                        have f218 : n218.toInt = (ii).toInt + (1) := by have h9 := zz_addT e218 (by omega) (by omega); omega
                        refine lv_iinc (v := n218) (lv' := [(4, .int n218), (0, .ref h0), (1, .int sh), (2, .int bi), (3, .int nn)]) hx hb dX9_sheet_113 hl (k := 0) rfl (by rw [e218]; rfl) (by decide) rfl (fun ls hl => ?_)
                        refine lv_goto (tgt := 93) hx hb dX9_sheet_116 (by decide) ?_
                        exact ih93 n218 σ217 _ _ _ (by omega) hC (by first | omega | exact hI | exact hT) (by intro j hj; rw [w217, zz_un (by omega)]; exact f93_1 j hj) (by rw [zz_HMo (a := h0 + 4) w217 (by omega)]; exact f93_2) (by rw [zz_HMo (a := h0 + 5) w217 (by omega)]; exact f93_3) (by intro k hk; exact if hq : 24 * sh.toInt.toNat + k = j217 then (by rw [hq, w217, zz_us]; exact k_0) else (by rw [w217, zz_un (by omega)]; exact f93_4 k (by omega))) (by intro i hi hq; rw [w217, zz_un (by omega)]; exact f93_5 i hi hq) hP hS (lv_sub hl [0, 1, 2, 3, 4] rfl)
                  exact J93 _ 0 σ213 _ _ _ (Nat.lt_succ_self _) hC (by first | omega | exact hI | exact hT) (by intro j hj; exact if hq : j = j213 then (by rw [hq, w213, zz_us]; omega) else (by rw [w213, zz_un (by omega), w205, zz_un (by omega)]; exact hz5 j hj)) (by rw [zz_HMo (a := h0 + 4) w213 (by omega), zz_HMw w205 (by omega : (j205 : Int) = sh.toInt) (by omega)]) (by rw [zz_HMw w213 (by omega : (j213 : Int) = sh.toInt) (by omega), zz_HMo (a := h0 + 5) w205 (by omega), if_pos (by omega), k_0]) (by intro k hk; omega) (by intro i hi hq; rw [w213, zz_un (by omega), w205, zz_un (by omega)]) hP hS (lv_sub hl [0, 1, 2, 3, 4] rfl)
              · have c204 := zz_nleT c204
                refine lv_iload_n hx hb dX9_sheet_55 rfl (lv_at hl 3 rfl) ?_
                refine lv_bipush (v := 24) hx hb dX9_sheet_56 (by decide) ?_
                refine lv_icmp_le (tgt := 68) hx hb dX9_sheet_58 (by decide) (fun c219 => ?_) (fun c219 => ?_)
                · have c219 := zz_leT c219
                  refine lv_aload_n hx hb dX9_sheet_68 rfl (lv_at hl 0 rfl) ?_
                  refine zz_getr hx hb hts hi9 hown hK hP (g0.1) rfl 4 (by decide) (hts (.fieldLink RX9 19 "NoonLawModel" "bitsOf" "[I") (List.mem_cons_of_mem _ bm_96)) rfl rfl dX9_sheet_69 ?_
                  refine lv_iload_n hx hb dX9_sheet_72 rfl (lv_at hl 1 rfl) ?_
                  refine lv_iload_n hx hb dX9_sheet_73 rfl (lv_at hl 2 rfl) ?_
                  refine zz_iast hx hb hK hP hS (g0.2.2.2.2.1) (by omega) (by omega) dX9_sheet_74 (fun j220 σ220 H locs q220 r220 w220 hP1 hS1 => ?_)
                  replace hP := hP1
                  replace hS := hS1
                  clear hP1 hS1
                  replace hC := hC.u w220 (dS28_8 h0)
                  refine lv_aload_n hx hb dX9_sheet_75 rfl (lv_at hl 0 rfl) ?_
                  refine zz_getr hx hb hts hi9 hown hK hP (g0.1) rfl 5 (by decide) (hts (.fieldLink RX9 22 "NoonLawModel" "sizeOf" "[I") (List.mem_cons_of_mem _ bm_97)) rfl rfl dX9_sheet_76 ?_
                  refine lv_iload_n hx hb dX9_sheet_79 rfl (lv_at hl 1 rfl) ?_
                  refine lv_iload_n hx hb dX9_sheet_80 rfl (lv_at hl 2 rfl) ?_
                  refine lv_if_ne (tgt := 88) hx hb dX9_sheet_81 (by decide) (fun c221 => ?_) (fun c221 => ?_)
                  · have c221 := zz_neT c221
                    refine lv_iload_n hx hb dX9_sheet_88 rfl (lv_at hl 3 rfl) ?_
                    refine zz_iast hx hb hK hP hS (g0.2.2.2.2.2.1) (by omega) (by omega) dX9_sheet_89 (fun j222 σ222 H locs q222 r222 w222 hP1 hS1 => ?_)
                    replace hP := hP1
                    replace hS := hS1
                    clear hP1 hS1
                    replace hC := hC.u w222 (dS28_9 h0)
                    refine lv_iconst (v := 0) hx hb dX9_sheet_90 (by decide) ?_
                    refine lv_istore (lv' := [(4, .int 0), (0, .ref h0), (1, .int sh), (2, .int bi), (3, .int nn)]) hx hb dX9_sheet_91 hl (by decide) rfl (fun ls hl => ?_)
                    have J93 : ∀ (n : Nat) (ii : Int32) (σa : zz_S) (H : Heap) (locs : List Loc) (ls : Array Slot), ((24 - ii.toInt).toNat) < n → (zz_ch (fun a k => (a = h0 + 3 ∨ (h0 + 7 ≤ a ∧ a ≤ h0 + 11)) ∨ a = h0 + 4 ∨ a = h0 + 5 ∨ a = h0 + 6) σ σa) → (0 ≤ ii.toInt) → (∀ j : Nat, j < 4 → 0 ≤ (σa (h0 + 5) j).toInt ∧ (σa (h0 + 5) j).toInt ≤ 24) → (zz_HM σa (h0 + 4) = zz_wn (zz_HM σ (h0 + 4)) sh.toInt bi.toInt) → (zz_HM σa (h0 + 5) = zz_wn (zz_HM σ (h0 + 5)) sh.toInt (if bi.toInt = 0 then 0 else nn.toInt)) → (∀ k : Nat, (k : Int) < ii.toInt → (σa (h0 + 6) (24 * sh.toInt.toNat + k)).toInt = 0) → (∀ i : Nat, i < 96 → (i < 24 * sh.toInt.toNat ∨ 24 * sh.toInt.toNat + 24 ≤ i) → σa (h0 + 6) i = σ (h0 + 6) i) → zz_P E σa H → va_S (zz_A E) s.heap H locs → lv_has ls 5 [(4, .int ii), (0, .ref h0), (1, .int sh), (2, .int bi), (3, .int nn)] → W p l e (headSpec wzX9_sheet ({ frames := 2, cells := 0, slots := 0, locals := 42 })).room s m args below meth c H locs 0 0 (MQ below (va_Qi (fun r σ1 => zz_ch (fun a k => (a = h0 + 3 ∨ (h0 + 7 ≤ a ∧ a ≤ h0 + 11)) ∨ a = h0 + 4 ∨ a = h0 + 5 ∨ a = h0 + 6) σ σ1 ∧ (zz_IM σ1 h0 ∧ zz_sheet sh.toInt bi.toInt nn.toInt r.toInt ∧ (r.toInt < 0 → zz_HM σ1 (h0 + 4) = zz_HM σ (h0 + 4) ∧ zz_HM σ1 (h0 + 5) = zz_HM σ (h0 + 5) ∧ zz_CM σ1 (h0 + 6) = zz_CM σ (h0 + 6)) ∧ (0 ≤ r.toInt → zz_HM σ1 (h0 + 4) = zz_wn (zz_HM σ (h0 + 4)) sh.toInt bi.toInt ∧ zz_HM σ1 (h0 + 5) = zz_wn (zz_HM σ (h0 + 5)) sh.toInt (if bi.toInt = 0 then 0 else nn.toInt) ∧ zz_CM σ1 (h0 + 6) = zz_cz (zz_CM σ (h0 + 6)) sh.toInt))) (zz_B E) (zz_A E)) args s 0 0 (zz_A E)) (F0 m 93 ls []) := by
                      intro n
                      induction n with
                      | zero => intro ii σa H locs ls hm; exact absurd hm (Nat.not_lt_zero _)
                      | succ n ih93 =>
                        intro ii σa H locs ls hm hC f93_0 f93_1 f93_2 f93_3 f93_4 f93_5 hP hS hl
                        refine lv_iload hx hb dX9_sheet_93 (lv_at hl 0 rfl) ?_
                        refine lv_bipush (v := 24) hx hb dX9_sheet_95 (by decide) ?_
                        refine lv_icmp_ge (tgt := 119) hx hb dX9_sheet_97 (by decide) (fun c223 => ?_) (fun c223 => ?_)
                        · have c223 := zz_leT c223
                          refine lv_iconst (v := 1) hx hb dX9_sheet_119 (by decide) ?_
                          exact zz_iret hx hb hr hlocks hK hP hS dX9_sheet_120 (by exact ⟨hC, ⟨hJ.1.keep (fun k => hC _ _ (by first | (dsimp only; omega) | omega)), hJ.2.1.keep (fun k => hC _ _ (by first | (dsimp only; omega) | omega)), f93_1, (by rw [hC _ _ (by first | (dsimp only; omega) | omega)]; exact htr)⟩, (by unfold zz_sheet; omega), (fun q => absurd q (by omega)), (fun _ => ⟨f93_2, f93_3, zz_CM.cz (j0 := sh.toInt.toNat) (by omega) (by omega) (fun k hk => f93_4 k (by omega)) (fun i hi hq => f93_5 i hi (by omega))⟩)⟩)
                        · have c223 := zz_nleT c223
                          refine lv_aload_n hx hb dX9_sheet_100 rfl (lv_at hl 1 rfl) ?_
                          refine zz_getr hx hb hts hi9 hown hK hP (g0.1) rfl 6 (by decide) (hts (.fieldLink RX9 25 "NoonLawModel" "cells" "[I") (List.mem_cons_of_mem _ bm_98)) rfl rfl dX9_sheet_101 ?_
                          refine lv_bipush (v := 24) hx hb dX9_sheet_104 (by decide) ?_
                          refine lv_iload_n hx hb dX9_sheet_106 rfl (lv_at hl 2 rfl) ?_
                          refine lv_imul hx hb dX9_sheet_107 ?_
                          refine lv_topi (fun n224 e224 => ?_)
                          have f224 : n224.toInt = 24 * (sh).toInt := zz_mulL 24 e224 (by decide) (by omega) (by omega)
                          refine lv_iload hx hb dX9_sheet_108 (lv_at hl 0 rfl) ?_
                          refine lv_iadd hx hb dX9_sheet_110 ?_
                          refine lv_topi (fun n225 e225 => ?_)
                          have f225 : n225.toInt = (n224).toInt + (ii).toInt := zz_addT e225 (by omega) (by omega)
                          refine lv_iconst (v := 0) hx hb dX9_sheet_111 (by decide) ?_
                          refine zz_iast hx hb hK hP hS (g0.2.2.2.2.2.2.1) (by omega) (by omega) dX9_sheet_112 (fun j226 σ226 H locs q226 r226 w226 hP1 hS1 => ?_)
                          replace hP := hP1
                          replace hS := hS1
                          clear hP1 hS1
                          replace hC := hC.u w226 (dS28_10 h0)
                          obtain ⟨n227, e227⟩ : ∃ y : Int32, y = ii + 1 := ⟨_, rfl⟩
                          have f227 : n227.toInt = (ii).toInt + (1) := by have h9 := zz_addT e227 (by omega) (by omega); omega
                          refine lv_iinc (v := n227) (lv' := [(4, .int n227), (0, .ref h0), (1, .int sh), (2, .int bi), (3, .int nn)]) hx hb dX9_sheet_113 hl (k := 0) rfl (by rw [e227]; rfl) (by decide) rfl (fun ls hl => ?_)
                          refine lv_goto (tgt := 93) hx hb dX9_sheet_116 (by decide) ?_
                          exact ih93 n227 σ226 _ _ _ (by omega) hC (by first | omega | exact hI | exact hT) (by intro j hj; rw [w226, zz_un (by omega)]; exact f93_1 j hj) (by rw [zz_HMo (a := h0 + 4) w226 (by omega)]; exact f93_2) (by rw [zz_HMo (a := h0 + 5) w226 (by omega)]; exact f93_3) (by intro k hk; exact if hq : 24 * sh.toInt.toNat + k = j226 then (by rw [hq, w226, zz_us]; exact k_0) else (by rw [w226, zz_un (by omega)]; exact f93_4 k (by omega))) (by intro i hi hq; rw [w226, zz_un (by omega)]; exact f93_5 i hi hq) hP hS (lv_sub hl [0, 1, 2, 3, 4] rfl)
                    exact J93 _ 0 σ222 _ _ _ (Nat.lt_succ_self _) hC (by first | omega | exact hI | exact hT) (by intro j hj; exact if hq : j = j222 then (by rw [hq, w222, zz_us]; omega) else (by rw [w222, zz_un (by omega), w220, zz_un (by omega)]; exact hz5 j hj)) (by rw [zz_HMo (a := h0 + 4) w222 (by omega), zz_HMw w220 (by omega : (j220 : Int) = sh.toInt) (by omega)]) (by rw [zz_HMw w222 (by omega : (j222 : Int) = sh.toInt) (by omega), zz_HMo (a := h0 + 5) w220 (by omega), if_neg (by omega)]) (by intro k hk; omega) (by intro i hi hq; rw [w222, zz_un (by omega), w220, zz_un (by omega)]) hP hS (lv_sub hl [0, 1, 2, 3, 4] rfl)
                  · have c221 := zz_eqT c221
                    refine lv_iconst (v := 0) hx hb dX9_sheet_84 (by decide) ?_
                    refine lv_goto (tgt := 89) hx hb dX9_sheet_85 (by decide) ?_
                    refine zz_iast hx hb hK hP hS (g0.2.2.2.2.2.1) (by omega) (by omega) dX9_sheet_89 (fun j228 σ228 H locs q228 r228 w228 hP1 hS1 => ?_)
                    replace hP := hP1
                    replace hS := hS1
                    clear hP1 hS1
                    replace hC := hC.u w228 (dS28_9 h0)
                    refine lv_iconst (v := 0) hx hb dX9_sheet_90 (by decide) ?_
                    refine lv_istore (lv' := [(4, .int 0), (0, .ref h0), (1, .int sh), (2, .int bi), (3, .int nn)]) hx hb dX9_sheet_91 hl (by decide) rfl (fun ls hl => ?_)
                    have J93 : ∀ (n : Nat) (ii : Int32) (σa : zz_S) (H : Heap) (locs : List Loc) (ls : Array Slot), ((24 - ii.toInt).toNat) < n → (zz_ch (fun a k => (a = h0 + 3 ∨ (h0 + 7 ≤ a ∧ a ≤ h0 + 11)) ∨ a = h0 + 4 ∨ a = h0 + 5 ∨ a = h0 + 6) σ σa) → (0 ≤ ii.toInt) → (∀ j : Nat, j < 4 → 0 ≤ (σa (h0 + 5) j).toInt ∧ (σa (h0 + 5) j).toInt ≤ 24) → (zz_HM σa (h0 + 4) = zz_wn (zz_HM σ (h0 + 4)) sh.toInt bi.toInt) → (zz_HM σa (h0 + 5) = zz_wn (zz_HM σ (h0 + 5)) sh.toInt (if bi.toInt = 0 then 0 else nn.toInt)) → (∀ k : Nat, (k : Int) < ii.toInt → (σa (h0 + 6) (24 * sh.toInt.toNat + k)).toInt = 0) → (∀ i : Nat, i < 96 → (i < 24 * sh.toInt.toNat ∨ 24 * sh.toInt.toNat + 24 ≤ i) → σa (h0 + 6) i = σ (h0 + 6) i) → zz_P E σa H → va_S (zz_A E) s.heap H locs → lv_has ls 5 [(4, .int ii), (0, .ref h0), (1, .int sh), (2, .int bi), (3, .int nn)] → W p l e (headSpec wzX9_sheet ({ frames := 2, cells := 0, slots := 0, locals := 42 })).room s m args below meth c H locs 0 0 (MQ below (va_Qi (fun r σ1 => zz_ch (fun a k => (a = h0 + 3 ∨ (h0 + 7 ≤ a ∧ a ≤ h0 + 11)) ∨ a = h0 + 4 ∨ a = h0 + 5 ∨ a = h0 + 6) σ σ1 ∧ (zz_IM σ1 h0 ∧ zz_sheet sh.toInt bi.toInt nn.toInt r.toInt ∧ (r.toInt < 0 → zz_HM σ1 (h0 + 4) = zz_HM σ (h0 + 4) ∧ zz_HM σ1 (h0 + 5) = zz_HM σ (h0 + 5) ∧ zz_CM σ1 (h0 + 6) = zz_CM σ (h0 + 6)) ∧ (0 ≤ r.toInt → zz_HM σ1 (h0 + 4) = zz_wn (zz_HM σ (h0 + 4)) sh.toInt bi.toInt ∧ zz_HM σ1 (h0 + 5) = zz_wn (zz_HM σ (h0 + 5)) sh.toInt (if bi.toInt = 0 then 0 else nn.toInt) ∧ zz_CM σ1 (h0 + 6) = zz_cz (zz_CM σ (h0 + 6)) sh.toInt))) (zz_B E) (zz_A E)) args s 0 0 (zz_A E)) (F0 m 93 ls []) := by
                      intro n
                      induction n with
                      | zero => intro ii σa H locs ls hm; exact absurd hm (Nat.not_lt_zero _)
                      | succ n ih93 =>
                        intro ii σa H locs ls hm hC f93_0 f93_1 f93_2 f93_3 f93_4 f93_5 hP hS hl
                        refine lv_iload hx hb dX9_sheet_93 (lv_at hl 0 rfl) ?_
                        refine lv_bipush (v := 24) hx hb dX9_sheet_95 (by decide) ?_
                        refine lv_icmp_ge (tgt := 119) hx hb dX9_sheet_97 (by decide) (fun c229 => ?_) (fun c229 => ?_)
                        · have c229 := zz_leT c229
                          refine lv_iconst (v := 1) hx hb dX9_sheet_119 (by decide) ?_
                          exact zz_iret hx hb hr hlocks hK hP hS dX9_sheet_120 (by exact ⟨hC, ⟨hJ.1.keep (fun k => hC _ _ (by first | (dsimp only; omega) | omega)), hJ.2.1.keep (fun k => hC _ _ (by first | (dsimp only; omega) | omega)), f93_1, (by rw [hC _ _ (by first | (dsimp only; omega) | omega)]; exact htr)⟩, (by unfold zz_sheet; omega), (fun q => absurd q (by omega)), (fun _ => ⟨f93_2, f93_3, zz_CM.cz (j0 := sh.toInt.toNat) (by omega) (by omega) (fun k hk => f93_4 k (by omega)) (fun i hi hq => f93_5 i hi (by omega))⟩)⟩)
                        · have c229 := zz_nleT c229
                          refine lv_aload_n hx hb dX9_sheet_100 rfl (lv_at hl 1 rfl) ?_
                          refine zz_getr hx hb hts hi9 hown hK hP (g0.1) rfl 6 (by decide) (hts (.fieldLink RX9 25 "NoonLawModel" "cells" "[I") (List.mem_cons_of_mem _ bm_98)) rfl rfl dX9_sheet_101 ?_
                          refine lv_bipush (v := 24) hx hb dX9_sheet_104 (by decide) ?_
                          refine lv_iload_n hx hb dX9_sheet_106 rfl (lv_at hl 2 rfl) ?_
                          refine lv_imul hx hb dX9_sheet_107 ?_
                          refine lv_topi (fun n230 e230 => ?_)
                          have f230 : n230.toInt = 24 * (sh).toInt := zz_mulL 24 e230 (by decide) (by omega) (by omega)
                          refine lv_iload hx hb dX9_sheet_108 (lv_at hl 0 rfl) ?_
                          refine lv_iadd hx hb dX9_sheet_110 ?_
                          refine lv_topi (fun n231 e231 => ?_)
                          have f231 : n231.toInt = (n230).toInt + (ii).toInt := zz_addT e231 (by omega) (by omega)
                          refine lv_iconst (v := 0) hx hb dX9_sheet_111 (by decide) ?_
                          refine zz_iast hx hb hK hP hS (g0.2.2.2.2.2.2.1) (by omega) (by omega) dX9_sheet_112 (fun j232 σ232 H locs q232 r232 w232 hP1 hS1 => ?_)
                          replace hP := hP1
                          replace hS := hS1
                          clear hP1 hS1
                          replace hC := hC.u w232 (dS28_10 h0)
                          obtain ⟨n233, e233⟩ : ∃ y : Int32, y = ii + 1 := ⟨_, rfl⟩
                          have f233 : n233.toInt = (ii).toInt + (1) := by have h9 := zz_addT e233 (by omega) (by omega); omega
                          refine lv_iinc (v := n233) (lv' := [(4, .int n233), (0, .ref h0), (1, .int sh), (2, .int bi), (3, .int nn)]) hx hb dX9_sheet_113 hl (k := 0) rfl (by rw [e233]; rfl) (by decide) rfl (fun ls hl => ?_)
                          refine lv_goto (tgt := 93) hx hb dX9_sheet_116 (by decide) ?_
                          exact ih93 n233 σ232 _ _ _ (by omega) hC (by first | omega | exact hI | exact hT) (by intro j hj; rw [w232, zz_un (by omega)]; exact f93_1 j hj) (by rw [zz_HMo (a := h0 + 4) w232 (by omega)]; exact f93_2) (by rw [zz_HMo (a := h0 + 5) w232 (by omega)]; exact f93_3) (by intro k hk; exact if hq : 24 * sh.toInt.toNat + k = j232 then (by rw [hq, w232, zz_us]; exact k_0) else (by rw [w232, zz_un (by omega)]; exact f93_4 k (by omega))) (by intro i hi hq; rw [w232, zz_un (by omega)]; exact f93_5 i hi hq) hP hS (lv_sub hl [0, 1, 2, 3, 4] rfl)
                    exact J93 _ 0 σ228 _ _ _ (Nat.lt_succ_self _) hC (by first | omega | exact hI | exact hT) (by intro j hj; exact if hq : j = j228 then (by rw [hq, w228, zz_us]; omega) else (by rw [w228, zz_un (by omega), w220, zz_un (by omega)]; exact hz5 j hj)) (by rw [zz_HMo (a := h0 + 4) w228 (by omega), zz_HMw w220 (by omega : (j220 : Int) = sh.toInt) (by omega)]) (by rw [zz_HMw w228 (by omega : (j228 : Int) = sh.toInt) (by omega), zz_HMo (a := h0 + 5) w220 (by omega), if_pos (by omega), k_0]) (by intro k hk; omega) (by intro i hi hq; rw [w228, zz_un (by omega), w220, zz_un (by omega)]) hP hS (lv_sub hl [0, 1, 2, 3, 4] rfl)
                · have c219 := zz_nleT c219
                  refine lv_aload_n hx hb dX9_sheet_61 rfl (lv_at hl 0 rfl) ?_
                  refine lv_ldc (v := (-1000000001)) hx hb hown (hts (.constant RX9 93 (-1000000001)) (List.mem_cons_of_mem _ bm_138)) dX9_sheet_62 ?_
                  refine zz_callVi (As := [.int (-1000000001)]) (rest := []) ⟨hx, hb, hml, hown, hts⟩ hK hP hS (c_X9_error l E σ h0 (-1000000001) g0 (by omega)) (cwV 1 hts gX9_sheet_X9_error rfl rfl rfl (by decide +kernel) ⟨Nat.le_of_ble_eq_true rfl, Nat.le_of_ble_eq_true rfl⟩) (g0.1) rfl rfl hl.1 rfl (Nat.le_of_ble_eq_true rfl) dX9_sheet_64 ⟨Nat.zero_le _, Nat.zero_le _⟩ (fun r234 σ234 H locs q234 hP1 hS1 => ?_)
                  replace hP := hP1
                  replace hS := hS1
                  clear hP1 hS1
                  try dsimp only at q234
                  obtain ⟨w234, f234⟩ := q234
                  replace hC := hC.tr (w234.mono (dS28_7 h0))
                  exact zz_iret hx hb hr hlocks hK hP hS dX9_sheet_67 (by exact ⟨hC, (hJ.soft (w234.mono (by intro a k h; omega))), (by unfold zz_sheet; omega), (fun _ => ⟨zz_HM.eq (fun j hj => w234 _ _ (by first | (dsimp only; omega) | omega)), zz_HM.eq (fun j hj => w234 _ _ (by first | (dsimp only; omega) | omega)), zz_CM.eq (fun k hk => w234 _ _ (by first | (dsimp only; omega) | omega))⟩), (fun q => absurd q (by omega))⟩)
            · have c203 := zz_nleT c203
              refine lv_iload_n hx hb dX9_sheet_40 rfl (lv_at hl 3 rfl) ?_
              refine lv_if_ge (tgt := 51) hx hb dX9_sheet_41 (by decide) (fun c235 => ?_) (fun c235 => ?_)
              · have c235 := zz_leT c235
                refine lv_iload_n hx hb dX9_sheet_51 rfl (lv_at hl 2 rfl) ?_
                refine lv_if_le (tgt := 68) hx hb dX9_sheet_52 (by decide) (fun c236 => ?_) (fun c236 => ?_)
                · have c236 := zz_leT c236
                  refine lv_aload_n hx hb dX9_sheet_68 rfl (lv_at hl 0 rfl) ?_
                  refine zz_getr hx hb hts hi9 hown hK hP (g0.1) rfl 4 (by decide) (hts (.fieldLink RX9 19 "NoonLawModel" "bitsOf" "[I") (List.mem_cons_of_mem _ bm_96)) rfl rfl dX9_sheet_69 ?_
                  refine lv_iload_n hx hb dX9_sheet_72 rfl (lv_at hl 1 rfl) ?_
                  refine lv_iload_n hx hb dX9_sheet_73 rfl (lv_at hl 2 rfl) ?_
                  refine zz_iast hx hb hK hP hS (g0.2.2.2.2.1) (by omega) (by omega) dX9_sheet_74 (fun j237 σ237 H locs q237 r237 w237 hP1 hS1 => ?_)
                  replace hP := hP1
                  replace hS := hS1
                  clear hP1 hS1
                  replace hC := hC.u w237 (dS28_8 h0)
                  refine lv_aload_n hx hb dX9_sheet_75 rfl (lv_at hl 0 rfl) ?_
                  refine zz_getr hx hb hts hi9 hown hK hP (g0.1) rfl 5 (by decide) (hts (.fieldLink RX9 22 "NoonLawModel" "sizeOf" "[I") (List.mem_cons_of_mem _ bm_97)) rfl rfl dX9_sheet_76 ?_
                  refine lv_iload_n hx hb dX9_sheet_79 rfl (lv_at hl 1 rfl) ?_
                  refine lv_iload_n hx hb dX9_sheet_80 rfl (lv_at hl 2 rfl) ?_
                  refine lv_if_ne (tgt := 88) hx hb dX9_sheet_81 (by decide) (fun c238 => ?_) (fun c238 => ?_)
                  · have c238 := zz_neT c238
                    refine lv_iload_n hx hb dX9_sheet_88 rfl (lv_at hl 3 rfl) ?_
                    refine zz_iast hx hb hK hP hS (g0.2.2.2.2.2.1) (by omega) (by omega) dX9_sheet_89 (fun j239 σ239 H locs q239 r239 w239 hP1 hS1 => ?_)
                    replace hP := hP1
                    replace hS := hS1
                    clear hP1 hS1
                    replace hC := hC.u w239 (dS28_9 h0)
                    refine lv_iconst (v := 0) hx hb dX9_sheet_90 (by decide) ?_
                    refine lv_istore (lv' := [(4, .int 0), (0, .ref h0), (1, .int sh), (2, .int bi), (3, .int nn)]) hx hb dX9_sheet_91 hl (by decide) rfl (fun ls hl => ?_)
                    have J93 : ∀ (n : Nat) (ii : Int32) (σa : zz_S) (H : Heap) (locs : List Loc) (ls : Array Slot), ((24 - ii.toInt).toNat) < n → (zz_ch (fun a k => (a = h0 + 3 ∨ (h0 + 7 ≤ a ∧ a ≤ h0 + 11)) ∨ a = h0 + 4 ∨ a = h0 + 5 ∨ a = h0 + 6) σ σa) → (0 ≤ ii.toInt) → (∀ j : Nat, j < 4 → 0 ≤ (σa (h0 + 5) j).toInt ∧ (σa (h0 + 5) j).toInt ≤ 24) → (zz_HM σa (h0 + 4) = zz_wn (zz_HM σ (h0 + 4)) sh.toInt bi.toInt) → (zz_HM σa (h0 + 5) = zz_wn (zz_HM σ (h0 + 5)) sh.toInt (if bi.toInt = 0 then 0 else nn.toInt)) → (∀ k : Nat, (k : Int) < ii.toInt → (σa (h0 + 6) (24 * sh.toInt.toNat + k)).toInt = 0) → (∀ i : Nat, i < 96 → (i < 24 * sh.toInt.toNat ∨ 24 * sh.toInt.toNat + 24 ≤ i) → σa (h0 + 6) i = σ (h0 + 6) i) → zz_P E σa H → va_S (zz_A E) s.heap H locs → lv_has ls 5 [(4, .int ii), (0, .ref h0), (1, .int sh), (2, .int bi), (3, .int nn)] → W p l e (headSpec wzX9_sheet ({ frames := 2, cells := 0, slots := 0, locals := 42 })).room s m args below meth c H locs 0 0 (MQ below (va_Qi (fun r σ1 => zz_ch (fun a k => (a = h0 + 3 ∨ (h0 + 7 ≤ a ∧ a ≤ h0 + 11)) ∨ a = h0 + 4 ∨ a = h0 + 5 ∨ a = h0 + 6) σ σ1 ∧ (zz_IM σ1 h0 ∧ zz_sheet sh.toInt bi.toInt nn.toInt r.toInt ∧ (r.toInt < 0 → zz_HM σ1 (h0 + 4) = zz_HM σ (h0 + 4) ∧ zz_HM σ1 (h0 + 5) = zz_HM σ (h0 + 5) ∧ zz_CM σ1 (h0 + 6) = zz_CM σ (h0 + 6)) ∧ (0 ≤ r.toInt → zz_HM σ1 (h0 + 4) = zz_wn (zz_HM σ (h0 + 4)) sh.toInt bi.toInt ∧ zz_HM σ1 (h0 + 5) = zz_wn (zz_HM σ (h0 + 5)) sh.toInt (if bi.toInt = 0 then 0 else nn.toInt) ∧ zz_CM σ1 (h0 + 6) = zz_cz (zz_CM σ (h0 + 6)) sh.toInt))) (zz_B E) (zz_A E)) args s 0 0 (zz_A E)) (F0 m 93 ls []) := by
                      intro n
                      induction n with
                      | zero => intro ii σa H locs ls hm; exact absurd hm (Nat.not_lt_zero _)
                      | succ n ih93 =>
                        intro ii σa H locs ls hm hC f93_0 f93_1 f93_2 f93_3 f93_4 f93_5 hP hS hl
                        refine lv_iload hx hb dX9_sheet_93 (lv_at hl 0 rfl) ?_
                        refine lv_bipush (v := 24) hx hb dX9_sheet_95 (by decide) ?_
                        refine lv_icmp_ge (tgt := 119) hx hb dX9_sheet_97 (by decide) (fun c240 => ?_) (fun c240 => ?_)
                        · have c240 := zz_leT c240
                          refine lv_iconst (v := 1) hx hb dX9_sheet_119 (by decide) ?_
                          exact zz_iret hx hb hr hlocks hK hP hS dX9_sheet_120 (by exact ⟨hC, ⟨hJ.1.keep (fun k => hC _ _ (by first | (dsimp only; omega) | omega)), hJ.2.1.keep (fun k => hC _ _ (by first | (dsimp only; omega) | omega)), f93_1, (by rw [hC _ _ (by first | (dsimp only; omega) | omega)]; exact htr)⟩, (by unfold zz_sheet; omega), (fun q => absurd q (by omega)), (fun _ => ⟨f93_2, f93_3, zz_CM.cz (j0 := sh.toInt.toNat) (by omega) (by omega) (fun k hk => f93_4 k (by omega)) (fun i hi hq => f93_5 i hi (by omega))⟩)⟩)
                        · have c240 := zz_nleT c240
                          refine lv_aload_n hx hb dX9_sheet_100 rfl (lv_at hl 1 rfl) ?_
                          refine zz_getr hx hb hts hi9 hown hK hP (g0.1) rfl 6 (by decide) (hts (.fieldLink RX9 25 "NoonLawModel" "cells" "[I") (List.mem_cons_of_mem _ bm_98)) rfl rfl dX9_sheet_101 ?_
                          refine lv_bipush (v := 24) hx hb dX9_sheet_104 (by decide) ?_
                          refine lv_iload_n hx hb dX9_sheet_106 rfl (lv_at hl 2 rfl) ?_
                          refine lv_imul hx hb dX9_sheet_107 ?_
                          refine lv_topi (fun n241 e241 => ?_)
                          have f241 : n241.toInt = 24 * (sh).toInt := zz_mulL 24 e241 (by decide) (by omega) (by omega)
                          refine lv_iload hx hb dX9_sheet_108 (lv_at hl 0 rfl) ?_
                          refine lv_iadd hx hb dX9_sheet_110 ?_
                          refine lv_topi (fun n242 e242 => ?_)
                          have f242 : n242.toInt = (n241).toInt + (ii).toInt := zz_addT e242 (by omega) (by omega)
                          refine lv_iconst (v := 0) hx hb dX9_sheet_111 (by decide) ?_
                          refine zz_iast hx hb hK hP hS (g0.2.2.2.2.2.2.1) (by omega) (by omega) dX9_sheet_112 (fun j243 σ243 H locs q243 r243 w243 hP1 hS1 => ?_)
                          replace hP := hP1
                          replace hS := hS1
                          clear hP1 hS1
                          replace hC := hC.u w243 (dS28_10 h0)
                          obtain ⟨n244, e244⟩ : ∃ y : Int32, y = ii + 1 := ⟨_, rfl⟩
                          have f244 : n244.toInt = (ii).toInt + (1) := by have h9 := zz_addT e244 (by omega) (by omega); omega
                          refine lv_iinc (v := n244) (lv' := [(4, .int n244), (0, .ref h0), (1, .int sh), (2, .int bi), (3, .int nn)]) hx hb dX9_sheet_113 hl (k := 0) rfl (by rw [e244]; rfl) (by decide) rfl (fun ls hl => ?_)
                          refine lv_goto (tgt := 93) hx hb dX9_sheet_116 (by decide) ?_
                          exact ih93 n244 σ243 _ _ _ (by omega) hC (by first | omega | exact hI | exact hT) (by intro j hj; rw [w243, zz_un (by omega)]; exact f93_1 j hj) (by rw [zz_HMo (a := h0 + 4) w243 (by omega)]; exact f93_2) (by rw [zz_HMo (a := h0 + 5) w243 (by omega)]; exact f93_3) (by intro k hk; exact if hq : 24 * sh.toInt.toNat + k = j243 then (by rw [hq, w243, zz_us]; exact k_0) else (by rw [w243, zz_un (by omega)]; exact f93_4 k (by omega))) (by intro i hi hq; rw [w243, zz_un (by omega)]; exact f93_5 i hi hq) hP hS (lv_sub hl [0, 1, 2, 3, 4] rfl)
                    exact J93 _ 0 σ239 _ _ _ (Nat.lt_succ_self _) hC (by first | omega | exact hI | exact hT) (by intro j hj; exact if hq : j = j239 then (by rw [hq, w239, zz_us]; omega) else (by rw [w239, zz_un (by omega), w237, zz_un (by omega)]; exact hz5 j hj)) (by rw [zz_HMo (a := h0 + 4) w239 (by omega), zz_HMw w237 (by omega : (j237 : Int) = sh.toInt) (by omega)]) (by rw [zz_HMw w239 (by omega : (j239 : Int) = sh.toInt) (by omega), zz_HMo (a := h0 + 5) w237 (by omega), if_neg (by omega)]) (by intro k hk; omega) (by intro i hi hq; rw [w239, zz_un (by omega), w237, zz_un (by omega)]) hP hS (lv_sub hl [0, 1, 2, 3, 4] rfl)
                  · have c238 := zz_eqT c238
                    refine lv_iconst (v := 0) hx hb dX9_sheet_84 (by decide) ?_
                    refine lv_goto (tgt := 89) hx hb dX9_sheet_85 (by decide) ?_
                    refine zz_iast hx hb hK hP hS (g0.2.2.2.2.2.1) (by omega) (by omega) dX9_sheet_89 (fun j245 σ245 H locs q245 r245 w245 hP1 hS1 => ?_)
                    replace hP := hP1
                    replace hS := hS1
                    clear hP1 hS1
                    replace hC := hC.u w245 (dS28_9 h0)
                    refine lv_iconst (v := 0) hx hb dX9_sheet_90 (by decide) ?_
                    refine lv_istore (lv' := [(4, .int 0), (0, .ref h0), (1, .int sh), (2, .int bi), (3, .int nn)]) hx hb dX9_sheet_91 hl (by decide) rfl (fun ls hl => ?_)
                    have J93 : ∀ (n : Nat) (ii : Int32) (σa : zz_S) (H : Heap) (locs : List Loc) (ls : Array Slot), ((24 - ii.toInt).toNat) < n → (zz_ch (fun a k => (a = h0 + 3 ∨ (h0 + 7 ≤ a ∧ a ≤ h0 + 11)) ∨ a = h0 + 4 ∨ a = h0 + 5 ∨ a = h0 + 6) σ σa) → (0 ≤ ii.toInt) → (∀ j : Nat, j < 4 → 0 ≤ (σa (h0 + 5) j).toInt ∧ (σa (h0 + 5) j).toInt ≤ 24) → (zz_HM σa (h0 + 4) = zz_wn (zz_HM σ (h0 + 4)) sh.toInt bi.toInt) → (zz_HM σa (h0 + 5) = zz_wn (zz_HM σ (h0 + 5)) sh.toInt (if bi.toInt = 0 then 0 else nn.toInt)) → (∀ k : Nat, (k : Int) < ii.toInt → (σa (h0 + 6) (24 * sh.toInt.toNat + k)).toInt = 0) → (∀ i : Nat, i < 96 → (i < 24 * sh.toInt.toNat ∨ 24 * sh.toInt.toNat + 24 ≤ i) → σa (h0 + 6) i = σ (h0 + 6) i) → zz_P E σa H → va_S (zz_A E) s.heap H locs → lv_has ls 5 [(4, .int ii), (0, .ref h0), (1, .int sh), (2, .int bi), (3, .int nn)] → W p l e (headSpec wzX9_sheet ({ frames := 2, cells := 0, slots := 0, locals := 42 })).room s m args below meth c H locs 0 0 (MQ below (va_Qi (fun r σ1 => zz_ch (fun a k => (a = h0 + 3 ∨ (h0 + 7 ≤ a ∧ a ≤ h0 + 11)) ∨ a = h0 + 4 ∨ a = h0 + 5 ∨ a = h0 + 6) σ σ1 ∧ (zz_IM σ1 h0 ∧ zz_sheet sh.toInt bi.toInt nn.toInt r.toInt ∧ (r.toInt < 0 → zz_HM σ1 (h0 + 4) = zz_HM σ (h0 + 4) ∧ zz_HM σ1 (h0 + 5) = zz_HM σ (h0 + 5) ∧ zz_CM σ1 (h0 + 6) = zz_CM σ (h0 + 6)) ∧ (0 ≤ r.toInt → zz_HM σ1 (h0 + 4) = zz_wn (zz_HM σ (h0 + 4)) sh.toInt bi.toInt ∧ zz_HM σ1 (h0 + 5) = zz_wn (zz_HM σ (h0 + 5)) sh.toInt (if bi.toInt = 0 then 0 else nn.toInt) ∧ zz_CM σ1 (h0 + 6) = zz_cz (zz_CM σ (h0 + 6)) sh.toInt))) (zz_B E) (zz_A E)) args s 0 0 (zz_A E)) (F0 m 93 ls []) := by
                      intro n
                      induction n with
                      | zero => intro ii σa H locs ls hm; exact absurd hm (Nat.not_lt_zero _)
                      | succ n ih93 =>
                        intro ii σa H locs ls hm hC f93_0 f93_1 f93_2 f93_3 f93_4 f93_5 hP hS hl
                        refine lv_iload hx hb dX9_sheet_93 (lv_at hl 0 rfl) ?_
                        refine lv_bipush (v := 24) hx hb dX9_sheet_95 (by decide) ?_
                        refine lv_icmp_ge (tgt := 119) hx hb dX9_sheet_97 (by decide) (fun c246 => ?_) (fun c246 => ?_)
                        · have c246 := zz_leT c246
                          refine lv_iconst (v := 1) hx hb dX9_sheet_119 (by decide) ?_
                          exact zz_iret hx hb hr hlocks hK hP hS dX9_sheet_120 (by exact ⟨hC, ⟨hJ.1.keep (fun k => hC _ _ (by first | (dsimp only; omega) | omega)), hJ.2.1.keep (fun k => hC _ _ (by first | (dsimp only; omega) | omega)), f93_1, (by rw [hC _ _ (by first | (dsimp only; omega) | omega)]; exact htr)⟩, (by unfold zz_sheet; omega), (fun q => absurd q (by omega)), (fun _ => ⟨f93_2, f93_3, zz_CM.cz (j0 := sh.toInt.toNat) (by omega) (by omega) (fun k hk => f93_4 k (by omega)) (fun i hi hq => f93_5 i hi (by omega))⟩)⟩)
                        · have c246 := zz_nleT c246
                          refine lv_aload_n hx hb dX9_sheet_100 rfl (lv_at hl 1 rfl) ?_
                          refine zz_getr hx hb hts hi9 hown hK hP (g0.1) rfl 6 (by decide) (hts (.fieldLink RX9 25 "NoonLawModel" "cells" "[I") (List.mem_cons_of_mem _ bm_98)) rfl rfl dX9_sheet_101 ?_
                          refine lv_bipush (v := 24) hx hb dX9_sheet_104 (by decide) ?_
                          refine lv_iload_n hx hb dX9_sheet_106 rfl (lv_at hl 2 rfl) ?_
                          refine lv_imul hx hb dX9_sheet_107 ?_
                          refine lv_topi (fun n247 e247 => ?_)
                          have f247 : n247.toInt = 24 * (sh).toInt := zz_mulL 24 e247 (by decide) (by omega) (by omega)
                          refine lv_iload hx hb dX9_sheet_108 (lv_at hl 0 rfl) ?_
                          refine lv_iadd hx hb dX9_sheet_110 ?_
                          refine lv_topi (fun n248 e248 => ?_)
                          have f248 : n248.toInt = (n247).toInt + (ii).toInt := zz_addT e248 (by omega) (by omega)
                          refine lv_iconst (v := 0) hx hb dX9_sheet_111 (by decide) ?_
                          refine zz_iast hx hb hK hP hS (g0.2.2.2.2.2.2.1) (by omega) (by omega) dX9_sheet_112 (fun j249 σ249 H locs q249 r249 w249 hP1 hS1 => ?_)
                          replace hP := hP1
                          replace hS := hS1
                          clear hP1 hS1
                          replace hC := hC.u w249 (dS28_10 h0)
                          obtain ⟨n250, e250⟩ : ∃ y : Int32, y = ii + 1 := ⟨_, rfl⟩
                          have f250 : n250.toInt = (ii).toInt + (1) := by have h9 := zz_addT e250 (by omega) (by omega); omega
                          refine lv_iinc (v := n250) (lv' := [(4, .int n250), (0, .ref h0), (1, .int sh), (2, .int bi), (3, .int nn)]) hx hb dX9_sheet_113 hl (k := 0) rfl (by rw [e250]; rfl) (by decide) rfl (fun ls hl => ?_)
                          refine lv_goto (tgt := 93) hx hb dX9_sheet_116 (by decide) ?_
                          exact ih93 n250 σ249 _ _ _ (by omega) hC (by first | omega | exact hI | exact hT) (by intro j hj; rw [w249, zz_un (by omega)]; exact f93_1 j hj) (by rw [zz_HMo (a := h0 + 4) w249 (by omega)]; exact f93_2) (by rw [zz_HMo (a := h0 + 5) w249 (by omega)]; exact f93_3) (by intro k hk; exact if hq : 24 * sh.toInt.toNat + k = j249 then (by rw [hq, w249, zz_us]; exact k_0) else (by rw [w249, zz_un (by omega)]; exact f93_4 k (by omega))) (by intro i hi hq; rw [w249, zz_un (by omega)]; exact f93_5 i hi hq) hP hS (lv_sub hl [0, 1, 2, 3, 4] rfl)
                    exact J93 _ 0 σ245 _ _ _ (Nat.lt_succ_self _) hC (by first | omega | exact hI | exact hT) (by intro j hj; exact if hq : j = j245 then (by rw [hq, w245, zz_us]; omega) else (by rw [w245, zz_un (by omega), w237, zz_un (by omega)]; exact hz5 j hj)) (by rw [zz_HMo (a := h0 + 4) w245 (by omega), zz_HMw w237 (by omega : (j237 : Int) = sh.toInt) (by omega)]) (by rw [zz_HMw w245 (by omega : (j245 : Int) = sh.toInt) (by omega), zz_HMo (a := h0 + 5) w237 (by omega), if_pos (by omega), k_0]) (by intro k hk; omega) (by intro i hi hq; rw [w245, zz_un (by omega), w237, zz_un (by omega)]) hP hS (lv_sub hl [0, 1, 2, 3, 4] rfl)
                · have c236 := zz_nleT c236
                  refine lv_iload_n hx hb dX9_sheet_55 rfl (lv_at hl 3 rfl) ?_
                  refine lv_bipush (v := 24) hx hb dX9_sheet_56 (by decide) ?_
                  refine lv_icmp_le (tgt := 68) hx hb dX9_sheet_58 (by decide) (fun c251 => ?_) (fun c251 => ?_)
                  · have c251 := zz_leT c251
                    refine lv_aload_n hx hb dX9_sheet_68 rfl (lv_at hl 0 rfl) ?_
                    refine zz_getr hx hb hts hi9 hown hK hP (g0.1) rfl 4 (by decide) (hts (.fieldLink RX9 19 "NoonLawModel" "bitsOf" "[I") (List.mem_cons_of_mem _ bm_96)) rfl rfl dX9_sheet_69 ?_
                    refine lv_iload_n hx hb dX9_sheet_72 rfl (lv_at hl 1 rfl) ?_
                    refine lv_iload_n hx hb dX9_sheet_73 rfl (lv_at hl 2 rfl) ?_
                    refine zz_iast hx hb hK hP hS (g0.2.2.2.2.1) (by omega) (by omega) dX9_sheet_74 (fun j252 σ252 H locs q252 r252 w252 hP1 hS1 => ?_)
                    replace hP := hP1
                    replace hS := hS1
                    clear hP1 hS1
                    replace hC := hC.u w252 (dS28_8 h0)
                    refine lv_aload_n hx hb dX9_sheet_75 rfl (lv_at hl 0 rfl) ?_
                    refine zz_getr hx hb hts hi9 hown hK hP (g0.1) rfl 5 (by decide) (hts (.fieldLink RX9 22 "NoonLawModel" "sizeOf" "[I") (List.mem_cons_of_mem _ bm_97)) rfl rfl dX9_sheet_76 ?_
                    refine lv_iload_n hx hb dX9_sheet_79 rfl (lv_at hl 1 rfl) ?_
                    refine lv_iload_n hx hb dX9_sheet_80 rfl (lv_at hl 2 rfl) ?_
                    refine lv_if_ne (tgt := 88) hx hb dX9_sheet_81 (by decide) (fun c253 => ?_) (fun c253 => ?_)
                    · have c253 := zz_neT c253
                      refine lv_iload_n hx hb dX9_sheet_88 rfl (lv_at hl 3 rfl) ?_
                      refine zz_iast hx hb hK hP hS (g0.2.2.2.2.2.1) (by omega) (by omega) dX9_sheet_89 (fun j254 σ254 H locs q254 r254 w254 hP1 hS1 => ?_)
                      replace hP := hP1
                      replace hS := hS1
                      clear hP1 hS1
                      replace hC := hC.u w254 (dS28_9 h0)
                      refine lv_iconst (v := 0) hx hb dX9_sheet_90 (by decide) ?_
                      refine lv_istore (lv' := [(4, .int 0), (0, .ref h0), (1, .int sh), (2, .int bi), (3, .int nn)]) hx hb dX9_sheet_91 hl (by decide) rfl (fun ls hl => ?_)
                      have J93 : ∀ (n : Nat) (ii : Int32) (σa : zz_S) (H : Heap) (locs : List Loc) (ls : Array Slot), ((24 - ii.toInt).toNat) < n → (zz_ch (fun a k => (a = h0 + 3 ∨ (h0 + 7 ≤ a ∧ a ≤ h0 + 11)) ∨ a = h0 + 4 ∨ a = h0 + 5 ∨ a = h0 + 6) σ σa) → (0 ≤ ii.toInt) → (∀ j : Nat, j < 4 → 0 ≤ (σa (h0 + 5) j).toInt ∧ (σa (h0 + 5) j).toInt ≤ 24) → (zz_HM σa (h0 + 4) = zz_wn (zz_HM σ (h0 + 4)) sh.toInt bi.toInt) → (zz_HM σa (h0 + 5) = zz_wn (zz_HM σ (h0 + 5)) sh.toInt (if bi.toInt = 0 then 0 else nn.toInt)) → (∀ k : Nat, (k : Int) < ii.toInt → (σa (h0 + 6) (24 * sh.toInt.toNat + k)).toInt = 0) → (∀ i : Nat, i < 96 → (i < 24 * sh.toInt.toNat ∨ 24 * sh.toInt.toNat + 24 ≤ i) → σa (h0 + 6) i = σ (h0 + 6) i) → zz_P E σa H → va_S (zz_A E) s.heap H locs → lv_has ls 5 [(4, .int ii), (0, .ref h0), (1, .int sh), (2, .int bi), (3, .int nn)] → W p l e (headSpec wzX9_sheet ({ frames := 2, cells := 0, slots := 0, locals := 42 })).room s m args below meth c H locs 0 0 (MQ below (va_Qi (fun r σ1 => zz_ch (fun a k => (a = h0 + 3 ∨ (h0 + 7 ≤ a ∧ a ≤ h0 + 11)) ∨ a = h0 + 4 ∨ a = h0 + 5 ∨ a = h0 + 6) σ σ1 ∧ (zz_IM σ1 h0 ∧ zz_sheet sh.toInt bi.toInt nn.toInt r.toInt ∧ (r.toInt < 0 → zz_HM σ1 (h0 + 4) = zz_HM σ (h0 + 4) ∧ zz_HM σ1 (h0 + 5) = zz_HM σ (h0 + 5) ∧ zz_CM σ1 (h0 + 6) = zz_CM σ (h0 + 6)) ∧ (0 ≤ r.toInt → zz_HM σ1 (h0 + 4) = zz_wn (zz_HM σ (h0 + 4)) sh.toInt bi.toInt ∧ zz_HM σ1 (h0 + 5) = zz_wn (zz_HM σ (h0 + 5)) sh.toInt (if bi.toInt = 0 then 0 else nn.toInt) ∧ zz_CM σ1 (h0 + 6) = zz_cz (zz_CM σ (h0 + 6)) sh.toInt))) (zz_B E) (zz_A E)) args s 0 0 (zz_A E)) (F0 m 93 ls []) := by
                        intro n
                        induction n with
                        | zero => intro ii σa H locs ls hm; exact absurd hm (Nat.not_lt_zero _)
                        | succ n ih93 =>
                          intro ii σa H locs ls hm hC f93_0 f93_1 f93_2 f93_3 f93_4 f93_5 hP hS hl
                          refine lv_iload hx hb dX9_sheet_93 (lv_at hl 0 rfl) ?_
                          refine lv_bipush (v := 24) hx hb dX9_sheet_95 (by decide) ?_
                          refine lv_icmp_ge (tgt := 119) hx hb dX9_sheet_97 (by decide) (fun c255 => ?_) (fun c255 => ?_)
                          · have c255 := zz_leT c255
                            refine lv_iconst (v := 1) hx hb dX9_sheet_119 (by decide) ?_
                            exact zz_iret hx hb hr hlocks hK hP hS dX9_sheet_120 (by exact ⟨hC, ⟨hJ.1.keep (fun k => hC _ _ (by first | (dsimp only; omega) | omega)), hJ.2.1.keep (fun k => hC _ _ (by first | (dsimp only; omega) | omega)), f93_1, (by rw [hC _ _ (by first | (dsimp only; omega) | omega)]; exact htr)⟩, (by unfold zz_sheet; omega), (fun q => absurd q (by omega)), (fun _ => ⟨f93_2, f93_3, zz_CM.cz (j0 := sh.toInt.toNat) (by omega) (by omega) (fun k hk => f93_4 k (by omega)) (fun i hi hq => f93_5 i hi (by omega))⟩)⟩)
                          · have c255 := zz_nleT c255
                            refine lv_aload_n hx hb dX9_sheet_100 rfl (lv_at hl 1 rfl) ?_
                            refine zz_getr hx hb hts hi9 hown hK hP (g0.1) rfl 6 (by decide) (hts (.fieldLink RX9 25 "NoonLawModel" "cells" "[I") (List.mem_cons_of_mem _ bm_98)) rfl rfl dX9_sheet_101 ?_
                            refine lv_bipush (v := 24) hx hb dX9_sheet_104 (by decide) ?_
                            refine lv_iload_n hx hb dX9_sheet_106 rfl (lv_at hl 2 rfl) ?_
                            refine lv_imul hx hb dX9_sheet_107 ?_
                            refine lv_topi (fun n256 e256 => ?_)
                            have f256 : n256.toInt = 24 * (sh).toInt := zz_mulL 24 e256 (by decide) (by omega) (by omega)
                            refine lv_iload hx hb dX9_sheet_108 (lv_at hl 0 rfl) ?_
                            refine lv_iadd hx hb dX9_sheet_110 ?_
                            refine lv_topi (fun n257 e257 => ?_)
                            have f257 : n257.toInt = (n256).toInt + (ii).toInt := zz_addT e257 (by omega) (by omega)
                            refine lv_iconst (v := 0) hx hb dX9_sheet_111 (by decide) ?_
                            refine zz_iast hx hb hK hP hS (g0.2.2.2.2.2.2.1) (by omega) (by omega) dX9_sheet_112 (fun j258 σ258 H locs q258 r258 w258 hP1 hS1 => ?_)
                            replace hP := hP1
                            replace hS := hS1
                            clear hP1 hS1
                            replace hC := hC.u w258 (dS28_10 h0)
                            obtain ⟨n259, e259⟩ : ∃ y : Int32, y = ii + 1 := ⟨_, rfl⟩
                            have f259 : n259.toInt = (ii).toInt + (1) := by have h9 := zz_addT e259 (by omega) (by omega); omega
                            refine lv_iinc (v := n259) (lv' := [(4, .int n259), (0, .ref h0), (1, .int sh), (2, .int bi), (3, .int nn)]) hx hb dX9_sheet_113 hl (k := 0) rfl (by rw [e259]; rfl) (by decide) rfl (fun ls hl => ?_)
                            refine lv_goto (tgt := 93) hx hb dX9_sheet_116 (by decide) ?_
                            exact ih93 n259 σ258 _ _ _ (by omega) hC (by first | omega | exact hI | exact hT) (by intro j hj; rw [w258, zz_un (by omega)]; exact f93_1 j hj) (by rw [zz_HMo (a := h0 + 4) w258 (by omega)]; exact f93_2) (by rw [zz_HMo (a := h0 + 5) w258 (by omega)]; exact f93_3) (by intro k hk; exact if hq : 24 * sh.toInt.toNat + k = j258 then (by rw [hq, w258, zz_us]; exact k_0) else (by rw [w258, zz_un (by omega)]; exact f93_4 k (by omega))) (by intro i hi hq; rw [w258, zz_un (by omega)]; exact f93_5 i hi hq) hP hS (lv_sub hl [0, 1, 2, 3, 4] rfl)
                      exact J93 _ 0 σ254 _ _ _ (Nat.lt_succ_self _) hC (by first | omega | exact hI | exact hT) (by intro j hj; exact if hq : j = j254 then (by rw [hq, w254, zz_us]; omega) else (by rw [w254, zz_un (by omega), w252, zz_un (by omega)]; exact hz5 j hj)) (by rw [zz_HMo (a := h0 + 4) w254 (by omega), zz_HMw w252 (by omega : (j252 : Int) = sh.toInt) (by omega)]) (by rw [zz_HMw w254 (by omega : (j254 : Int) = sh.toInt) (by omega), zz_HMo (a := h0 + 5) w252 (by omega), if_neg (by omega)]) (by intro k hk; omega) (by intro i hi hq; rw [w254, zz_un (by omega), w252, zz_un (by omega)]) hP hS (lv_sub hl [0, 1, 2, 3, 4] rfl)
                    · have c253 := zz_eqT c253
                      refine lv_iconst (v := 0) hx hb dX9_sheet_84 (by decide) ?_
                      refine lv_goto (tgt := 89) hx hb dX9_sheet_85 (by decide) ?_
                      refine zz_iast hx hb hK hP hS (g0.2.2.2.2.2.1) (by omega) (by omega) dX9_sheet_89 (fun j260 σ260 H locs q260 r260 w260 hP1 hS1 => ?_)
                      replace hP := hP1
                      replace hS := hS1
                      clear hP1 hS1
                      replace hC := hC.u w260 (dS28_9 h0)
                      refine lv_iconst (v := 0) hx hb dX9_sheet_90 (by decide) ?_
                      refine lv_istore (lv' := [(4, .int 0), (0, .ref h0), (1, .int sh), (2, .int bi), (3, .int nn)]) hx hb dX9_sheet_91 hl (by decide) rfl (fun ls hl => ?_)
                      have J93 : ∀ (n : Nat) (ii : Int32) (σa : zz_S) (H : Heap) (locs : List Loc) (ls : Array Slot), ((24 - ii.toInt).toNat) < n → (zz_ch (fun a k => (a = h0 + 3 ∨ (h0 + 7 ≤ a ∧ a ≤ h0 + 11)) ∨ a = h0 + 4 ∨ a = h0 + 5 ∨ a = h0 + 6) σ σa) → (0 ≤ ii.toInt) → (∀ j : Nat, j < 4 → 0 ≤ (σa (h0 + 5) j).toInt ∧ (σa (h0 + 5) j).toInt ≤ 24) → (zz_HM σa (h0 + 4) = zz_wn (zz_HM σ (h0 + 4)) sh.toInt bi.toInt) → (zz_HM σa (h0 + 5) = zz_wn (zz_HM σ (h0 + 5)) sh.toInt (if bi.toInt = 0 then 0 else nn.toInt)) → (∀ k : Nat, (k : Int) < ii.toInt → (σa (h0 + 6) (24 * sh.toInt.toNat + k)).toInt = 0) → (∀ i : Nat, i < 96 → (i < 24 * sh.toInt.toNat ∨ 24 * sh.toInt.toNat + 24 ≤ i) → σa (h0 + 6) i = σ (h0 + 6) i) → zz_P E σa H → va_S (zz_A E) s.heap H locs → lv_has ls 5 [(4, .int ii), (0, .ref h0), (1, .int sh), (2, .int bi), (3, .int nn)] → W p l e (headSpec wzX9_sheet ({ frames := 2, cells := 0, slots := 0, locals := 42 })).room s m args below meth c H locs 0 0 (MQ below (va_Qi (fun r σ1 => zz_ch (fun a k => (a = h0 + 3 ∨ (h0 + 7 ≤ a ∧ a ≤ h0 + 11)) ∨ a = h0 + 4 ∨ a = h0 + 5 ∨ a = h0 + 6) σ σ1 ∧ (zz_IM σ1 h0 ∧ zz_sheet sh.toInt bi.toInt nn.toInt r.toInt ∧ (r.toInt < 0 → zz_HM σ1 (h0 + 4) = zz_HM σ (h0 + 4) ∧ zz_HM σ1 (h0 + 5) = zz_HM σ (h0 + 5) ∧ zz_CM σ1 (h0 + 6) = zz_CM σ (h0 + 6)) ∧ (0 ≤ r.toInt → zz_HM σ1 (h0 + 4) = zz_wn (zz_HM σ (h0 + 4)) sh.toInt bi.toInt ∧ zz_HM σ1 (h0 + 5) = zz_wn (zz_HM σ (h0 + 5)) sh.toInt (if bi.toInt = 0 then 0 else nn.toInt) ∧ zz_CM σ1 (h0 + 6) = zz_cz (zz_CM σ (h0 + 6)) sh.toInt))) (zz_B E) (zz_A E)) args s 0 0 (zz_A E)) (F0 m 93 ls []) := by
                        intro n
                        induction n with
                        | zero => intro ii σa H locs ls hm; exact absurd hm (Nat.not_lt_zero _)
                        | succ n ih93 =>
                          intro ii σa H locs ls hm hC f93_0 f93_1 f93_2 f93_3 f93_4 f93_5 hP hS hl
                          refine lv_iload hx hb dX9_sheet_93 (lv_at hl 0 rfl) ?_
                          refine lv_bipush (v := 24) hx hb dX9_sheet_95 (by decide) ?_
                          refine lv_icmp_ge (tgt := 119) hx hb dX9_sheet_97 (by decide) (fun c261 => ?_) (fun c261 => ?_)
                          · have c261 := zz_leT c261
                            refine lv_iconst (v := 1) hx hb dX9_sheet_119 (by decide) ?_
                            exact zz_iret hx hb hr hlocks hK hP hS dX9_sheet_120 (by exact ⟨hC, ⟨hJ.1.keep (fun k => hC _ _ (by first | (dsimp only; omega) | omega)), hJ.2.1.keep (fun k => hC _ _ (by first | (dsimp only; omega) | omega)), f93_1, (by rw [hC _ _ (by first | (dsimp only; omega) | omega)]; exact htr)⟩, (by unfold zz_sheet; omega), (fun q => absurd q (by omega)), (fun _ => ⟨f93_2, f93_3, zz_CM.cz (j0 := sh.toInt.toNat) (by omega) (by omega) (fun k hk => f93_4 k (by omega)) (fun i hi hq => f93_5 i hi (by omega))⟩)⟩)
                          · have c261 := zz_nleT c261
                            refine lv_aload_n hx hb dX9_sheet_100 rfl (lv_at hl 1 rfl) ?_
                            refine zz_getr hx hb hts hi9 hown hK hP (g0.1) rfl 6 (by decide) (hts (.fieldLink RX9 25 "NoonLawModel" "cells" "[I") (List.mem_cons_of_mem _ bm_98)) rfl rfl dX9_sheet_101 ?_
                            refine lv_bipush (v := 24) hx hb dX9_sheet_104 (by decide) ?_
                            refine lv_iload_n hx hb dX9_sheet_106 rfl (lv_at hl 2 rfl) ?_
                            refine lv_imul hx hb dX9_sheet_107 ?_
                            refine lv_topi (fun n262 e262 => ?_)
                            have f262 : n262.toInt = 24 * (sh).toInt := zz_mulL 24 e262 (by decide) (by omega) (by omega)
                            refine lv_iload hx hb dX9_sheet_108 (lv_at hl 0 rfl) ?_
                            refine lv_iadd hx hb dX9_sheet_110 ?_
                            refine lv_topi (fun n263 e263 => ?_)
                            have f263 : n263.toInt = (n262).toInt + (ii).toInt := zz_addT e263 (by omega) (by omega)
                            refine lv_iconst (v := 0) hx hb dX9_sheet_111 (by decide) ?_
                            refine zz_iast hx hb hK hP hS (g0.2.2.2.2.2.2.1) (by omega) (by omega) dX9_sheet_112 (fun j264 σ264 H locs q264 r264 w264 hP1 hS1 => ?_)
                            replace hP := hP1
                            replace hS := hS1
                            clear hP1 hS1
                            replace hC := hC.u w264 (dS28_10 h0)
                            obtain ⟨n265, e265⟩ : ∃ y : Int32, y = ii + 1 := ⟨_, rfl⟩
                            have f265 : n265.toInt = (ii).toInt + (1) := by have h9 := zz_addT e265 (by omega) (by omega); omega
                            refine lv_iinc (v := n265) (lv' := [(4, .int n265), (0, .ref h0), (1, .int sh), (2, .int bi), (3, .int nn)]) hx hb dX9_sheet_113 hl (k := 0) rfl (by rw [e265]; rfl) (by decide) rfl (fun ls hl => ?_)
                            refine lv_goto (tgt := 93) hx hb dX9_sheet_116 (by decide) ?_
                            exact ih93 n265 σ264 _ _ _ (by omega) hC (by first | omega | exact hI | exact hT) (by intro j hj; rw [w264, zz_un (by omega)]; exact f93_1 j hj) (by rw [zz_HMo (a := h0 + 4) w264 (by omega)]; exact f93_2) (by rw [zz_HMo (a := h0 + 5) w264 (by omega)]; exact f93_3) (by intro k hk; exact if hq : 24 * sh.toInt.toNat + k = j264 then (by rw [hq, w264, zz_us]; exact k_0) else (by rw [w264, zz_un (by omega)]; exact f93_4 k (by omega))) (by intro i hi hq; rw [w264, zz_un (by omega)]; exact f93_5 i hi hq) hP hS (lv_sub hl [0, 1, 2, 3, 4] rfl)
                      exact J93 _ 0 σ260 _ _ _ (Nat.lt_succ_self _) hC (by first | omega | exact hI | exact hT) (by intro j hj; exact if hq : j = j260 then (by rw [hq, w260, zz_us]; omega) else (by rw [w260, zz_un (by omega), w252, zz_un (by omega)]; exact hz5 j hj)) (by rw [zz_HMo (a := h0 + 4) w260 (by omega), zz_HMw w252 (by omega : (j252 : Int) = sh.toInt) (by omega)]) (by rw [zz_HMw w260 (by omega : (j260 : Int) = sh.toInt) (by omega), zz_HMo (a := h0 + 5) w252 (by omega), if_pos (by omega), k_0]) (by intro k hk; omega) (by intro i hi hq; rw [w260, zz_un (by omega), w252, zz_un (by omega)]) hP hS (lv_sub hl [0, 1, 2, 3, 4] rfl)
                  · have c251 := zz_nleT c251
                    refine lv_aload_n hx hb dX9_sheet_61 rfl (lv_at hl 0 rfl) ?_
                    refine lv_ldc (v := (-1000000001)) hx hb hown (hts (.constant RX9 93 (-1000000001)) (List.mem_cons_of_mem _ bm_138)) dX9_sheet_62 ?_
                    refine zz_callVi (As := [.int (-1000000001)]) (rest := []) ⟨hx, hb, hml, hown, hts⟩ hK hP hS (c_X9_error l E σ h0 (-1000000001) g0 (by omega)) (cwV 1 hts gX9_sheet_X9_error rfl rfl rfl (by decide +kernel) ⟨Nat.le_of_ble_eq_true rfl, Nat.le_of_ble_eq_true rfl⟩) (g0.1) rfl rfl hl.1 rfl (Nat.le_of_ble_eq_true rfl) dX9_sheet_64 ⟨Nat.zero_le _, Nat.zero_le _⟩ (fun r266 σ266 H locs q266 hP1 hS1 => ?_)
                    replace hP := hP1
                    replace hS := hS1
                    clear hP1 hS1
                    try dsimp only at q266
                    obtain ⟨w266, f266⟩ := q266
                    replace hC := hC.tr (w266.mono (dS28_7 h0))
                    exact zz_iret hx hb hr hlocks hK hP hS dX9_sheet_67 (by exact ⟨hC, (hJ.soft (w266.mono (by intro a k h; omega))), (by unfold zz_sheet; omega), (fun _ => ⟨zz_HM.eq (fun j hj => w266 _ _ (by first | (dsimp only; omega) | omega)), zz_HM.eq (fun j hj => w266 _ _ (by first | (dsimp only; omega) | omega)), zz_CM.eq (fun k hk => w266 _ _ (by first | (dsimp only; omega) | omega))⟩), (fun q => absurd q (by omega))⟩)
              · have c235 := zz_nleT c235
                refine lv_aload_n hx hb dX9_sheet_44 rfl (lv_at hl 0 rfl) ?_
                refine lv_ldc (v := (-1000000003)) hx hb hown (hts (.constant RX9 178 (-1000000003)) (List.mem_cons_of_mem _ bm_592)) dX9_sheet_45 ?_
                refine zz_callVi (As := [.int (-1000000003)]) (rest := []) ⟨hx, hb, hml, hown, hts⟩ hK hP hS (c_X9_error l E σ h0 (-1000000003) g0 (by omega)) (cwV 1 hts gX9_sheet_X9_error rfl rfl rfl (by decide +kernel) ⟨Nat.le_of_ble_eq_true rfl, Nat.le_of_ble_eq_true rfl⟩) (g0.1) rfl rfl hl.1 rfl (Nat.le_of_ble_eq_true rfl) dX9_sheet_47 ⟨Nat.zero_le _, Nat.zero_le _⟩ (fun r267 σ267 H locs q267 hP1 hS1 => ?_)
                replace hP := hP1
                replace hS := hS1
                clear hP1 hS1
                try dsimp only at q267
                obtain ⟨w267, f267⟩ := q267
                replace hC := hC.tr (w267.mono (dS28_7 h0))
                exact zz_iret hx hb hr hlocks hK hP hS dX9_sheet_50 (by exact ⟨hC, (hJ.soft (w267.mono (by intro a k h; omega))), (by unfold zz_sheet; omega), (fun _ => ⟨zz_HM.eq (fun j hj => w267 _ _ (by first | (dsimp only; omega) | omega)), zz_HM.eq (fun j hj => w267 _ _ (by first | (dsimp only; omega) | omega)), zz_CM.eq (fun k hk => w267 _ _ (by first | (dsimp only; omega) | omega))⟩), (fun q => absurd q (by omega))⟩)
          · have c202 := zz_neT c202
            refine lv_aload_n hx hb dX9_sheet_29 rfl (lv_at hl 0 rfl) ?_
            refine lv_ldc (v := (-1000000001)) hx hb hown (hts (.constant RX9 93 (-1000000001)) (List.mem_cons_of_mem _ bm_138)) dX9_sheet_30 ?_
            refine zz_callVi (As := [.int (-1000000001)]) (rest := []) ⟨hx, hb, hml, hown, hts⟩ hK hP hS (c_X9_error l E σ h0 (-1000000001) g0 (by omega)) (cwV 1 hts gX9_sheet_X9_error rfl rfl rfl (by decide +kernel) ⟨Nat.le_of_ble_eq_true rfl, Nat.le_of_ble_eq_true rfl⟩) (g0.1) rfl rfl hl.1 rfl (Nat.le_of_ble_eq_true rfl) dX9_sheet_32 ⟨Nat.zero_le _, Nat.zero_le _⟩ (fun r268 σ268 H locs q268 hP1 hS1 => ?_)
            replace hP := hP1
            replace hS := hS1
            clear hP1 hS1
            try dsimp only at q268
            obtain ⟨w268, f268⟩ := q268
            replace hC := hC.tr (w268.mono (dS28_7 h0))
            exact zz_iret hx hb hr hlocks hK hP hS dX9_sheet_35 (by exact ⟨hC, (hJ.soft (w268.mono (by intro a k h; omega))), (by unfold zz_sheet; omega), (fun _ => ⟨zz_HM.eq (fun j hj => w268 _ _ (by first | (dsimp only; omega) | omega)), zz_HM.eq (fun j hj => w268 _ _ (by first | (dsimp only; omega) | omega)), zz_CM.eq (fun k hk => w268 _ _ (by first | (dsimp only; omega) | omega))⟩), (fun q => absurd q (by omega))⟩)
theorem gX9_feed_X9_in : GoodIn wzX9_feed (va_wsS RX9 47 yX9_in wzX9_in) := wz_co bm_143 (wz_co bm_144 (wz_co bm_5 (wz_in bm_145)))
theorem gX9_feed_X9_error : GoodIn wzX9_feed (wsV RX9 94 RX9 yX9_error wzX9_error) := wz_co bm_146 (wz_co bm_147 (wz_co bm_148 (wz_co bm_5 (wz_in bm_149))))
theorem dS28_11 (x0 : Nat) : ((x0 + 1) = x0 + 3 ∨ (x0 + 7 ≤ (x0 + 1) ∧ (x0 + 1) ≤ x0 + 11)) ∨ ((x0 + 1) = x0 + 1 ∧ ((5) = 5 ∨ (73 ≤ (5) ∧ (5) < 133))) := by omega
theorem dS28_12 (x0 : Nat) : ∀ a k : Nat, (a = (x0) + 3) → ((a = x0 + 3 ∨ (x0 + 7 ≤ a ∧ a ≤ x0 + 11)) ∨ (a = x0 + 1 ∧ (k = 5 ∨ (73 ≤ k ∧ k < 133)))) := by intro a k h; omega
theorem dS28_13 (x0 : Nat) : ¬ ((x0 + 1) = (x0) + 3) := by omega
set_option maxHeartbeats 4000000 in
set_option maxRecDepth 100000 in
theorem c_X9_feed (l : Launch) (E : zz_E) (σ : zz_S) (h0 : Nat) (word : Int64) (nn : Int32) (g0 : zz_M E h0) (hJ : zz_IM σ h0) : Met l yX9_feed wzX9_feed ({ frames := 1, cells := 0, slots := 0, locals := 22 }) (va_Pc [.ref h0, .long word, .int nn] (zz_B E σ)) (va_Qi (fun r σ1 => zz_ch (fun a k => (a = h0 + 3 ∨ (h0 + 7 ≤ a ∧ a ≤ h0 + 11)) ∨ (a = h0 + 1 ∧ (k = 5 ∨ (73 ≤ k ∧ k < 133)))) σ σ1 ∧ (zz_IM σ1 h0 ∧ ((((nn.toInt < 1 ∨ 8 < nn.toInt) ∧ r.toInt = -1000000001 ∧ (σ1 (h0 + 1) 5).toInt = (σ (h0 + 1) 5).toInt) ∨ ((1 ≤ nn.toInt ∧ nn.toInt ≤ 8) ∧ 60 < (σ (h0 + 1) 5).toInt + nn.toInt ∧ r.toInt = -1000000004 ∧ (σ1 (h0 + 1) 5).toInt = (σ (h0 + 1) 5).toInt) ∨ ((1 ≤ nn.toInt ∧ nn.toInt ≤ 8) ∧ (σ (h0 + 1) 5).toInt + nn.toInt ≤ 60 ∧ r.toInt = (σ (h0 + 1) 5).toInt + nn.toInt ∧ (σ1 (h0 + 1) 5).toInt = (σ (h0 + 1) 5).toInt + nn.toInt)) ∧ (r.toInt < 0 → zz_Tm σ1 (h0 + 1) = zz_Tm σ (h0 + 1)) ∧ (0 ≤ r.toInt → zz_Tm σ1 (h0 + 1) = zz_fd (zz_Tm σ (h0 + 1)) (σ (h0 + 1) 5).toInt word nn.toInt)))) (zz_B E) (zz_A E)) 0 0 (zz_A E) := by
  refine zz_met (cc := cX9_feed) (maxL := 5) (ret := (some .int)) (by decide) rfl (Nat.le_of_ble_eq_true rfl) ?_
  intro p e s m args below meth c ls hx hb hr hts hown hlocks hml hK hP hS hl
  have hl : lv_has ls 5 [(0, .ref h0), (1, .long word), (3, .int nn)] := hl
  have hown : s.vm.findClass RX9 = some m.cls := hown
  have hi9 : ∀ w ∈ wsX90, w ∈ wzX9_feed := fun w h => List.mem_cons_of_mem _ (hbw9 w h)
  have k_m1000000004 : ((-1000000004) : Int32).toInt = -1000000004 := by decide +kernel
  have k_m1000000001 : ((-1000000001) : Int32).toInt = -1000000001 := by decide +kernel
  have k_0 : (0 : Int32).toInt = 0 := by decide +kernel
  have k_1 : (1 : Int32).toInt = 1 := by decide +kernel
  have k_5 : (5 : Int32).toInt = 5 := by decide +kernel
  have k_8 : (8 : Int32).toInt = 8 := by decide +kernel
  have k_60 : (60 : Int32).toInt = 60 := by decide +kernel
  have k_73 : (73 : Int32).toInt = 73 := by decide +kernel
  replace t0 : σ (h0 + 1) 2 = σ (h0 + 1) 2 := rfl
  replace t1 : σ (h0 + 1) 3 = σ (h0 + 1) 3 := rfl
  replace t2 : σ (h0 + 1) 0 = σ (h0 + 1) 0 := rfl
  replace t3 : σ (h0 + 1) 4 = σ (h0 + 1) 4 := rfl
  replace t4 : σ (h0 + 1) 5 = σ (h0 + 1) 5 := rfl
  replace t5 : σ (h0 + 1) 6 = σ (h0 + 1) 6 := rfl
  replace t6 : σ (h0 + 1) 1 = σ (h0 + 1) 1 := rfl
  have hC : zz_ch (fun a k => (a = h0 + 3 ∨ (h0 + 7 ≤ a ∧ a ≤ h0 + 11)) ∨ (a = h0 + 1 ∧ (k = 5 ∨ (73 ≤ k ∧ k < 133)))) σ σ := zz_ch.rf σ
  have hI := hJ.1
  obtain ⟨hh, hsl, hd, hp, htc, hwc, hM, hT⟩ := id hI
  have hz5 := hJ.2.2.1
  have htr := hJ.2.2.2
  refine lv_iload_n hx hb dX9_feed_0 rfl (lv_at hl 2 rfl) ?_
  refine lv_iconst (v := 1) hx hb dX9_feed_1 (by decide) ?_
  refine lv_bipush (v := 8) hx hb dX9_feed_2 (by decide) ?_
  refine zz_callSp (As := [.int nn, .int 1, .int 8]) (rest := []) ⟨hx, hb, hml, hown, hts⟩ hK hP hS (c_X9_in l E σ nn 1 8) (va_cwS 3 hts gX9_feed_X9_in rfl rfl rfl (by decide +kernel) ⟨Nat.le_of_ble_eq_true rfl, Nat.le_of_ble_eq_true rfl⟩) rfl hl.1 rfl (Nat.le_of_ble_eq_true rfl) dX9_feed_4 ⟨Nat.zero_le _, Nat.zero_le _⟩ (fun r1 H locs f1 hP1 hS1 => ?_)
  replace hP := hP1
  replace hS := hS1
  clear hP1 hS1
  refine lv_if_ne (tgt := 17) hx hb dX9_feed_7 (by decide) (fun c2 => ?_) (fun c2 => ?_)
  · have c2 := zz_neT c2
    refine lv_aload_n hx hb dX9_feed_17 rfl (lv_at hl 0 rfl) ?_
    refine zz_getr hx hb hts hi9 hown hK hP (g0.1) rfl 0 (by decide) (hts (.fieldLink RX9 9 "NoonLawModel" "row" "[I") (List.mem_cons_of_mem _ bm_93)) rfl rfl dX9_feed_18 ?_
    refine lv_iconst (v := 5) hx hb dX9_feed_21 (by decide) ?_
    refine zz_ialc hx hb hK hP (g0.2.1) 5 (by decide) (by decide) t4 dX9_feed_22 ?_
    refine lv_iload_n hx hb dX9_feed_23 rfl (lv_at hl 2 rfl) ?_
    refine lv_iadd hx hb dX9_feed_24 ?_
    refine lv_topi (fun n4 e4 => ?_)
    have f4 : n4.toInt = (σ (h0 + 1) 5).toInt + (nn).toInt := zz_addT e4 (by omega) (by omega)
    refine lv_bipush (v := 60) hx hb dX9_feed_25 (by decide) ?_
    refine lv_icmp_le (tgt := 37) hx hb dX9_feed_27 (by decide) (fun c5 => ?_) (fun c5 => ?_)
    · have c5 := zz_leT c5
      refine lv_iconst (v := 0) hx hb dX9_feed_37 (by decide) ?_
      refine lv_istore (lv' := [(4, .int 0), (0, .ref h0), (1, .long word), (3, .int nn)]) hx hb dX9_feed_38 hl (by decide) rfl (fun ls hl => ?_)
      have J40 : ∀ (n : Nat) (ii : Int32) (tv : Int32) (σa : zz_S) (H : Heap) (locs : List Loc) (ls : Array Slot), ((8 - ii.toInt).toNat) < n → (zz_ch (fun a k => (a = h0 + 3 ∨ (h0 + 7 ≤ a ∧ a ≤ h0 + 11)) ∨ (a = h0 + 1 ∧ (k = 5 ∨ (73 ≤ k ∧ k < 133)))) σ σa) → (0 ≤ ii.toInt ∧ ii.toInt ≤ nn.toInt) → (tv.toInt = (σ (h0 + 1) 5).toInt + ii.toInt) → (zz_Tm σa (h0 + 1) = zz_fd (zz_Tm σ (h0 + 1)) (σ (h0 + 1) 5).toInt word ii.toInt) → (σa (h0 + 1) 2 = σ (h0 + 1) 2) → (σa (h0 + 1) 3 = σ (h0 + 1) 3) → (σa (h0 + 1) 0 = σ (h0 + 1) 0) → (σa (h0 + 1) 4 = σ (h0 + 1) 4) → (σa (h0 + 1) 5 = tv) → (σa (h0 + 1) 6 = σ (h0 + 1) 6) → (σa (h0 + 1) 1 = σ (h0 + 1) 1) → zz_P E σa H → va_S (zz_A E) s.heap H locs → lv_has ls 5 [(4, .int ii), (0, .ref h0), (1, .long word), (3, .int nn)] → W p l e (headSpec wzX9_feed ({ frames := 1, cells := 0, slots := 0, locals := 22 })).room s m args below meth c H locs 0 0 (MQ below (va_Qi (fun r σ1 => zz_ch (fun a k => (a = h0 + 3 ∨ (h0 + 7 ≤ a ∧ a ≤ h0 + 11)) ∨ (a = h0 + 1 ∧ (k = 5 ∨ (73 ≤ k ∧ k < 133)))) σ σ1 ∧ (zz_IM σ1 h0 ∧ ((((nn.toInt < 1 ∨ 8 < nn.toInt) ∧ r.toInt = -1000000001 ∧ (σ1 (h0 + 1) 5).toInt = (σ (h0 + 1) 5).toInt) ∨ ((1 ≤ nn.toInt ∧ nn.toInt ≤ 8) ∧ 60 < (σ (h0 + 1) 5).toInt + nn.toInt ∧ r.toInt = -1000000004 ∧ (σ1 (h0 + 1) 5).toInt = (σ (h0 + 1) 5).toInt) ∨ ((1 ≤ nn.toInt ∧ nn.toInt ≤ 8) ∧ (σ (h0 + 1) 5).toInt + nn.toInt ≤ 60 ∧ r.toInt = (σ (h0 + 1) 5).toInt + nn.toInt ∧ (σ1 (h0 + 1) 5).toInt = (σ (h0 + 1) 5).toInt + nn.toInt)) ∧ (r.toInt < 0 → zz_Tm σ1 (h0 + 1) = zz_Tm σ (h0 + 1)) ∧ (0 ≤ r.toInt → zz_Tm σ1 (h0 + 1) = zz_fd (zz_Tm σ (h0 + 1)) (σ (h0 + 1) 5).toInt word nn.toInt)))) (zz_B E) (zz_A E)) args s 0 0 (zz_A E)) (F0 m 40 ls []) := by
        intro n
        induction n with
        | zero => intro ii tv σa H locs ls hm; exact absurd hm (Nat.not_lt_zero _)
        | succ n ih40 =>
          intro ii tv σa H locs ls hm hC f40_0 f40_1 f40_2 t0 t1 t2 t3 t4 t5 t6 hP hS hl
          refine lv_iload hx hb dX9_feed_40 (lv_at hl 0 rfl) ?_
          refine lv_iload_n hx hb dX9_feed_42 rfl (lv_at hl 3 rfl) ?_
          refine lv_icmp_ge (tgt := 88) hx hb dX9_feed_43 (by decide) (fun c6 => ?_) (fun c6 => ?_)
          · have c6 := zz_leT c6
            refine lv_aload_n hx hb dX9_feed_88 rfl (lv_at hl 1 rfl) ?_
            refine zz_getr hx hb hts hi9 hown hK hP (g0.1) rfl 0 (by decide) (hts (.fieldLink RX9 9 "NoonLawModel" "row" "[I") (List.mem_cons_of_mem _ bm_93)) rfl rfl dX9_feed_89 ?_
            refine lv_iconst (v := 5) hx hb dX9_feed_92 (by decide) ?_
            refine zz_ialc hx hb hK hP (g0.2.1) 5 (by decide) (by decide) t4 dX9_feed_93 ?_
            exact zz_iret hx hb hr hlocks hK hP hS dX9_feed_94 (by exact ⟨hC, (hJ.row (hI.scal (fun k hk => hC _ _ (by first | (dsimp only; omega) | omega)) (fun j hj => by rw [hC _ _ (by first | (dsimp only; omega) | omega)]; exact hM j hj) (by rw [t2]; omega) (by rw [t3]; omega) (by rw [t0]; omega) (by rw [t1]; omega) (by rw [t4]; omega) (by rw [t5]; omega)) (hC.mono (by intro a k h; first | (dsimp only at h ⊢; omega) | omega))), by rw [t4]; omega, (fun q => absurd q (by omega)), (fun _ => by rw [f40_2, show ii.toInt = nn.toInt from by omega])⟩)
          · have c6 := zz_nleT c6
            have hta := congrArg Int32.toInt t4
            refine lv_aload_n hx hb dX9_feed_46 rfl (lv_at hl 1 rfl) ?_
            refine zz_getr hx hb hts hi9 hown hK hP (g0.1) rfl 0 (by decide) (hts (.fieldLink RX9 9 "NoonLawModel" "row" "[I") (List.mem_cons_of_mem _ bm_93)) rfl rfl dX9_feed_47 ?_
            refine lv_bipush (v := 73) hx hb dX9_feed_50 (by decide) ?_
            refine lv_aload_n hx hb dX9_feed_52 rfl (lv_at hl 1 rfl) ?_
            refine zz_getr hx hb hts hi9 hown hK hP (g0.1) rfl 0 (by decide) (hts (.fieldLink RX9 9 "NoonLawModel" "row" "[I") (List.mem_cons_of_mem _ bm_93)) rfl rfl dX9_feed_53 ?_
            refine lv_iconst (v := 5) hx hb dX9_feed_56 (by decide) ?_
            refine zz_ialc hx hb hK hP (g0.2.1) 5 (by decide) (by decide) t4 dX9_feed_57 ?_
            refine lv_iadd hx hb dX9_feed_58 ?_
            refine lv_topi (fun n9 e9 => ?_)
            have f9 : n9.toInt = (73 : Int32).toInt + (tv).toInt := zz_addT e9 (by omega) (by omega)
            refine lv_lload_n hx hb dX9_feed_59 rfl (lv_at hl 2 rfl) ?_
            refine lv_bipush (v := 8) hx hb dX9_feed_60 (by decide) ?_
            refine lv_iload hx hb dX9_feed_62 (lv_at hl 0 rfl) ?_
            refine lv_imul hx hb dX9_feed_64 ?_
            refine lv_topi (fun n10 e10 => ?_)
            have f10 : n10.toInt = 8 * (ii).toInt := zz_mulL 8 e10 (by decide) (by omega) (by omega)
            refine lv_lshr hx hb dX9_feed_65 rfl ?_
            refine lv_topl (fun n11 e11 => ?_)
            refine lv_ldc2 (v := 255) hx hb hown (hts (.constantLong RX9 114 (255)) (List.mem_cons_of_mem _ bm_434)) dX9_feed_66 ?_
            refine lv_land hx hb dX9_feed_69 ?_
            refine lv_topl (fun n12 e12 => ?_)
            refine lv_l2i hx hb dX9_feed_70 rfl ?_
            refine lv_topi (fun n13 e13 => ?_)
            skip
            refine zz_iast hx hb hK hP hS (g0.2.1) (by omega) (by omega) dX9_feed_71 (fun j14 σ14 H locs q14 r14 w14 hP1 hS1 => ?_)
            replace hP := hP1
            replace hS := hS1
            clear hP1 hS1
            replace hC := hC.u w14 (by first | (dsimp only; omega) | omega | (dsimp only; done))
            replace t0 : σ14 (h0 + 1) 2 = σ (h0 + 1) 2 := (zz_w (b := (h0 + 1)) (j := 2) w14 (by omega)).trans t0
            replace t1 : σ14 (h0 + 1) 3 = σ (h0 + 1) 3 := (zz_w (b := (h0 + 1)) (j := 3) w14 (by omega)).trans t1
            replace t2 : σ14 (h0 + 1) 0 = σ (h0 + 1) 0 := (zz_w (b := (h0 + 1)) (j := 0) w14 (by omega)).trans t2
            replace t3 : σ14 (h0 + 1) 4 = σ (h0 + 1) 4 := (zz_w (b := (h0 + 1)) (j := 4) w14 (by omega)).trans t3
            replace t4 : σ14 (h0 + 1) 5 = tv := (zz_w (b := (h0 + 1)) (j := 5) w14 (by omega)).trans t4
            replace t5 : σ14 (h0 + 1) 6 = σ (h0 + 1) 6 := (zz_w (b := (h0 + 1)) (j := 6) w14 (by omega)).trans t5
            replace t6 : σ14 (h0 + 1) 1 = σ (h0 + 1) 1 := (zz_w (b := (h0 + 1)) (j := 1) w14 (by omega)).trans t6
            refine lv_aload_n hx hb dX9_feed_72 rfl (lv_at hl 1 rfl) ?_
            refine zz_getr hx hb hts hi9 hown hK hP (g0.1) rfl 0 (by decide) (hts (.fieldLink RX9 9 "NoonLawModel" "row" "[I") (List.mem_cons_of_mem _ bm_93)) rfl rfl dX9_feed_73 ?_
            refine lv_iconst (v := 5) hx hb dX9_feed_76 (by decide) ?_
            refine lv_dup2_11 hx hb dX9_feed_77 rfl rfl ?_
            refine zz_ialc hx hb hK hP (g0.2.1) 5 (by decide) (by decide) t4 dX9_feed_78 ?_
            refine lv_iconst (v := 1) hx hb dX9_feed_79 (by decide) ?_
            refine lv_iadd hx hb dX9_feed_80 ?_
            refine lv_topi (fun n16 e16 => ?_)
            have f16 : n16.toInt = (tv).toInt + (1 : Int32).toInt := zz_addT e16 (by omega) (by omega)
            refine zz_iasc hx hb hK hP hS (g0.2.1) 5 (by decide) (by decide) dX9_feed_81 (fun σ17 H locs w17 hP1 hS1 => ?_)
            replace hP := hP1
            replace hS := hS1
            clear hP1 hS1
            replace hC := hC.u w17 (dS28_11 h0)
            replace t0 : σ17 (h0 + 1) 2 = σ (h0 + 1) 2 := (zz_w (b := (h0 + 1)) (j := 2) w17 (fun q9 => absurd q9.2 (by decide))).trans t0
            replace t1 : σ17 (h0 + 1) 3 = σ (h0 + 1) 3 := (zz_w (b := (h0 + 1)) (j := 3) w17 (fun q9 => absurd q9.2 (by decide))).trans t1
            replace t2 : σ17 (h0 + 1) 0 = σ (h0 + 1) 0 := (zz_w (b := (h0 + 1)) (j := 0) w17 (fun q9 => absurd q9.2 (by decide))).trans t2
            replace t3 : σ17 (h0 + 1) 4 = σ (h0 + 1) 4 := (zz_w (b := (h0 + 1)) (j := 4) w17 (fun q9 => absurd q9.2 (by decide))).trans t3
            replace t4 : σ17 (h0 + 1) 5 = n16 := zz_w1 w17
            replace t5 : σ17 (h0 + 1) 6 = σ (h0 + 1) 6 := (zz_w (b := (h0 + 1)) (j := 6) w17 (fun q9 => absurd q9.2 (by decide))).trans t5
            replace t6 : σ17 (h0 + 1) 1 = σ (h0 + 1) 1 := (zz_w (b := (h0 + 1)) (j := 1) w17 (fun q9 => absurd q9.2 (by decide))).trans t6
            obtain ⟨n18, e18⟩ : ∃ y : Int32, y = ii + 1 := ⟨_, rfl⟩
            have f18 : n18.toInt = (ii).toInt + (1) := by have h9 := zz_addT e18 (by omega) (by omega); omega
            refine lv_iinc (v := n18) (lv' := [(4, .int n18), (0, .ref h0), (1, .long word), (3, .int nn)]) hx hb dX9_feed_82 hl (k := 0) rfl (by rw [e18]; rfl) (by decide) rfl (fun ls hl => ?_)
            refine lv_goto (tgt := 40) hx hb dX9_feed_85 (by decide) ?_
            exact ih40 n18 n16 σ17 _ _ _ (by omega) hC (by first | omega | exact hI | exact hT) (by first | omega | exact hI | exact hT) (by exact zz_Tm.more w14 w17 f40_2 (by omega) (by omega) (by omega) (by omega) (by omega) (by omega) (zz_byM e11 e12 e13 (by omega))) t0 t1 t2 t3 t4 t5 t6 hP hS (lv_sub hl [0, 1, 2, 3] rfl)
      exact J40 _ 0 (σ (h0 + 1) 5) σ _ _ _ (Nat.lt_succ_self _) hC (by first | omega | exact hI | exact hT) (by first | omega | exact hI | exact hT) (by exact (zz_fd_0 (by omega)).symm) t0 t1 t2 t3 t4 t5 t6 hP hS (lv_sub hl [0, 1, 2, 3] rfl)
    · have c5 := zz_nleT c5
      refine lv_aload_n hx hb dX9_feed_30 rfl (lv_at hl 0 rfl) ?_
      refine lv_ldc (v := (-1000000004)) hx hb hown (hts (.constant RX9 97 (-1000000004)) (List.mem_cons_of_mem _ bm_139)) dX9_feed_31 ?_
      refine zz_callVi (As := [.int (-1000000004)]) (rest := []) ⟨hx, hb, hml, hown, hts⟩ hK hP hS (c_X9_error l E σ h0 (-1000000004) g0 (by omega)) (cwV 1 hts gX9_feed_X9_error rfl rfl rfl (by decide +kernel) ⟨Nat.le_of_ble_eq_true rfl, Nat.le_of_ble_eq_true rfl⟩) (g0.1) rfl rfl hl.1 rfl (Nat.le_of_ble_eq_true rfl) dX9_feed_33 ⟨Nat.zero_le _, Nat.zero_le _⟩ (fun r19 σ19 H locs q19 hP1 hS1 => ?_)
      replace hP := hP1
      replace hS := hS1
      clear hP1 hS1
      try dsimp only at q19
      obtain ⟨w19, f19⟩ := q19
      replace hC := hC.tr (w19.mono (dS28_12 h0))
      replace t0 : σ19 (h0 + 1) 2 = σ (h0 + 1) 2 := (w19 (h0 + 1) 2 (dS28_13 h0)).trans t0
      replace t1 : σ19 (h0 + 1) 3 = σ (h0 + 1) 3 := (w19 (h0 + 1) 3 (dS28_13 h0)).trans t1
      replace t2 : σ19 (h0 + 1) 0 = σ (h0 + 1) 0 := (w19 (h0 + 1) 0 (dS28_13 h0)).trans t2
      replace t3 : σ19 (h0 + 1) 4 = σ (h0 + 1) 4 := (w19 (h0 + 1) 4 (dS28_13 h0)).trans t3
      replace t4 : σ19 (h0 + 1) 5 = σ (h0 + 1) 5 := (w19 (h0 + 1) 5 (dS28_13 h0)).trans t4
      replace t5 : σ19 (h0 + 1) 6 = σ (h0 + 1) 6 := (w19 (h0 + 1) 6 (dS28_13 h0)).trans t5
      replace t6 : σ19 (h0 + 1) 1 = σ (h0 + 1) 1 := (w19 (h0 + 1) 1 (dS28_13 h0)).trans t6
      exact zz_iret hx hb hr hlocks hK hP hS dX9_feed_36 (by exact ⟨hC, (hJ.row (hI.scal (fun k hk => hC _ _ (by first | (dsimp only; omega) | omega)) (fun j hj => by rw [hC _ _ (by first | (dsimp only; omega) | omega)]; exact hM j hj) (by rw [t2]; omega) (by rw [t3]; omega) (by rw [t0]; omega) (by rw [t1]; omega) (by rw [t4]; omega) (by rw [t5]; omega)) (hC.mono (by intro a k h; first | (dsimp only at h ⊢; omega) | omega))), by rw [t4]; omega, (fun _ => (zz_Tm.eq (w19 _ _ (by first | (dsimp only; omega) | omega)) htc.2 (fun k _ => w19 _ _ (by first | (dsimp only; omega) | omega)))), (fun q => absurd q (by omega))⟩)
  · have c2 := zz_eqT c2
    refine lv_aload_n hx hb dX9_feed_10 rfl (lv_at hl 0 rfl) ?_
    refine lv_ldc (v := (-1000000001)) hx hb hown (hts (.constant RX9 93 (-1000000001)) (List.mem_cons_of_mem _ bm_138)) dX9_feed_11 ?_
    refine zz_callVi (As := [.int (-1000000001)]) (rest := []) ⟨hx, hb, hml, hown, hts⟩ hK hP hS (c_X9_error l E σ h0 (-1000000001) g0 (by omega)) (cwV 1 hts gX9_feed_X9_error rfl rfl rfl (by decide +kernel) ⟨Nat.le_of_ble_eq_true rfl, Nat.le_of_ble_eq_true rfl⟩) (g0.1) rfl rfl hl.1 rfl (Nat.le_of_ble_eq_true rfl) dX9_feed_13 ⟨Nat.zero_le _, Nat.zero_le _⟩ (fun r20 σ20 H locs q20 hP1 hS1 => ?_)
    replace hP := hP1
    replace hS := hS1
    clear hP1 hS1
    try dsimp only at q20
    obtain ⟨w20, f20⟩ := q20
    replace hC := hC.tr (w20.mono (dS28_12 h0))
    replace t0 : σ20 (h0 + 1) 2 = σ (h0 + 1) 2 := (w20 (h0 + 1) 2 (dS28_13 h0)).trans t0
    replace t1 : σ20 (h0 + 1) 3 = σ (h0 + 1) 3 := (w20 (h0 + 1) 3 (dS28_13 h0)).trans t1
    replace t2 : σ20 (h0 + 1) 0 = σ (h0 + 1) 0 := (w20 (h0 + 1) 0 (dS28_13 h0)).trans t2
    replace t3 : σ20 (h0 + 1) 4 = σ (h0 + 1) 4 := (w20 (h0 + 1) 4 (dS28_13 h0)).trans t3
    replace t4 : σ20 (h0 + 1) 5 = σ (h0 + 1) 5 := (w20 (h0 + 1) 5 (dS28_13 h0)).trans t4
    replace t5 : σ20 (h0 + 1) 6 = σ (h0 + 1) 6 := (w20 (h0 + 1) 6 (dS28_13 h0)).trans t5
    replace t6 : σ20 (h0 + 1) 1 = σ (h0 + 1) 1 := (w20 (h0 + 1) 1 (dS28_13 h0)).trans t6
    exact zz_iret hx hb hr hlocks hK hP hS dX9_feed_16 (by exact ⟨hC, (hJ.row (hI.scal (fun k hk => hC _ _ (by first | (dsimp only; omega) | omega)) (fun j hj => by rw [hC _ _ (by first | (dsimp only; omega) | omega)]; exact hM j hj) (by rw [t2]; omega) (by rw [t3]; omega) (by rw [t0]; omega) (by rw [t1]; omega) (by rw [t4]; omega) (by rw [t5]; omega)) (hC.mono (by intro a k h; first | (dsimp only at h ⊢; omega) | omega))), by rw [t4]; omega, (fun _ => (zz_Tm.eq (w20 _ _ (by first | (dsimp only; omega) | omega)) htc.2 (fun k _ => w20 _ _ (by first | (dsimp only; omega) | omega)))), (fun q => absurd q (by omega))⟩)
theorem gX9_forgets_X9_isDream : GoodIn wzX9_forgets (wsV RX9 101 RX9 yX9_isDream wzX9_isDream) := wz_co bm_236 (wz_co bm_237 (wz_co bm_238 (wz_co bm_5 (wz_in bm_239))))
theorem gX9_forgets_X9_in : GoodIn wzX9_forgets (va_wsS RX9 47 yX9_in wzX9_in) := wz_co bm_143 (wz_co bm_144 (wz_co bm_5 (wz_in bm_145)))
theorem gX9_forgets_X9_becomes : GoodIn wzX9_forgets (wsV RX9 104 RX9 yX9_becomes wzX9_becomes) := wz_co bm_278 (wz_co bm_279 (wz_co bm_280 (wz_co bm_5 (wz_in bm_281))))
theorem gX9_forgets_X9_error : GoodIn wzX9_forgets (wsV RX9 94 RX9 yX9_error wzX9_error) := wz_co bm_146 (wz_co bm_147 (wz_co bm_148 (wz_co bm_5 (wz_in bm_149))))
theorem dS28_14 (x0 : Nat) : ∀ a k : Nat, (a = (x0) + 3) → ((a = x0 + 3 ∨ (x0 + 7 ≤ a ∧ a ≤ x0 + 11)) ∨ (a = x0 + 1 ∧ 7 ≤ k ∧ k < 61)) := by intro a k h; omega
set_option maxHeartbeats 4000000 in
set_option maxRecDepth 100000 in
theorem c_X9_forgets (l : Launch) (E : zz_E) (σ : zz_S) (h0 : Nat) (dm : Int32) (is : Int32) (g0 : zz_M E h0) (hJ : zz_IM σ h0) : Met l yX9_forgets wzX9_forgets ({ frames := 2, cells := 0, slots := 0, locals := 43 }) (va_Pc [.ref h0, .int dm, .int is] (zz_B E σ)) (va_Qi (fun r σ1 => zz_ch (fun a k => (a = h0 + 3 ∨ (h0 + 7 ≤ a ∧ a ≤ h0 + 11)) ∨ (a = h0 + 1 ∧ 7 ≤ k ∧ k < 61)) σ σ1 ∧ (zz_IM σ1 h0 ∧ ((¬ (0 ≤ dm.toInt ∧ dm.toInt < (σ (h0 + 1) 2).toInt ∧ 0 ≤ is.toInt ∧ is.toInt ≤ 1) ∧ r.toInt = -1000000001 ∧ zz_DM σ1 (h0 + 1) = zz_DM σ (h0 + 1)) ∨ ((0 ≤ dm.toInt ∧ dm.toInt < (σ (h0 + 1) 2).toInt ∧ 0 ≤ is.toInt ∧ is.toInt ≤ 1) ∧ r.toInt = zz_DM σ (h0 + 1) dm.toInt.toNat 5 ∧ zz_DM σ1 (h0 + 1) = zz_ds (zz_DM σ (h0 + 1)) dm.toInt 5 is.toInt)))) (zz_B E) (zz_A E)) 0 0 (zz_A E) := by
  refine zz_met (cc := cX9_forgets) (maxL := 3) (ret := (some .int)) (by decide) rfl (Nat.le_of_ble_eq_true rfl) ?_
  intro p e s m args below meth c ls hx hb hr hts hown hlocks hml hK hP hS hl
  have hl : lv_has ls 3 [(0, .ref h0), (1, .int dm), (2, .int is)] := hl
  have hown : s.vm.findClass RX9 = some m.cls := hown
  have k_m1000000001 : ((-1000000001) : Int32).toInt = -1000000001 := by decide +kernel
  have k_0 : (0 : Int32).toInt = 0 := by decide +kernel
  have k_1 : (1 : Int32).toInt = 1 := by decide +kernel
  have k_5 : (5 : Int32).toInt = 5 := by decide +kernel
  have k_6 : (6 : Int32).toInt = 6 := by decide +kernel
  have k_7 : (7 : Int32).toInt = 7 := by decide +kernel
  replace t0 : σ (h0 + 1) 2 = σ (h0 + 1) 2 := rfl
  replace t1 : σ (h0 + 1) 3 = σ (h0 + 1) 3 := rfl
  replace t2 : σ (h0 + 1) 0 = σ (h0 + 1) 0 := rfl
  replace t3 : σ (h0 + 1) 4 = σ (h0 + 1) 4 := rfl
  replace t4 : σ (h0 + 1) 5 = σ (h0 + 1) 5 := rfl
  replace t5 : σ (h0 + 1) 6 = σ (h0 + 1) 6 := rfl
  replace t6 : σ (h0 + 1) 1 = σ (h0 + 1) 1 := rfl
  have hC : zz_ch (fun a k => (a = h0 + 3 ∨ (h0 + 7 ≤ a ∧ a ≤ h0 + 11)) ∨ (a = h0 + 1 ∧ 7 ≤ k ∧ k < 61)) σ σ := zz_ch.rf σ
  have hI := hJ.1
  obtain ⟨hh, hsl, hd, hp, htc, hwc, hM, hT⟩ := id hI
  have hz5 := hJ.2.2.1
  have htr := hJ.2.2.2
  refine lv_aload_n hx hb dX9_forgets_0 rfl (lv_at hl 0 rfl) ?_
  refine lv_iload_n hx hb dX9_forgets_1 rfl (lv_at hl 1 rfl) ?_
  refine zz_callVp (As := [.int dm]) (rest := []) ⟨hx, hb, hml, hown, hts⟩ hK hP hS (c_X9_isDream l E σ h0 dm g0 (by exact hd)) (cwV 1 hts gX9_forgets_X9_isDream rfl rfl rfl (by decide +kernel) ⟨Nat.le_of_ble_eq_true rfl, Nat.le_of_ble_eq_true rfl⟩) (g0.1) rfl rfl hl.1 rfl (Nat.le_of_ble_eq_true rfl) dX9_forgets_2 ⟨Nat.zero_le _, Nat.zero_le _⟩ (fun r1 H locs f1 hP1 hS1 => ?_)
  replace hP := hP1
  replace hS := hS1
  clear hP1 hS1
  refine lv_if_eq (tgt := 34) hx hb dX9_forgets_5 (by decide) (fun c2 => ?_) (fun c2 => ?_)
  · have c2 := zz_eqT c2
    refine lv_aload_n hx hb dX9_forgets_34 rfl (lv_at hl 0 rfl) ?_
    refine lv_ldc (v := (-1000000001)) hx hb hown (hts (.constant RX9 93 (-1000000001)) (List.mem_cons_of_mem _ bm_138)) dX9_forgets_35 ?_
    refine zz_callVi (As := [.int (-1000000001)]) (rest := []) ⟨hx, hb, hml, hown, hts⟩ hK hP hS (c_X9_error l E σ h0 (-1000000001) g0 (by omega)) (cwV 1 hts gX9_forgets_X9_error rfl rfl rfl (by decide +kernel) ⟨Nat.le_of_ble_eq_true rfl, Nat.le_of_ble_eq_true rfl⟩) (g0.1) rfl rfl hl.1 rfl (Nat.le_of_ble_eq_true rfl) dX9_forgets_37 ⟨Nat.zero_le _, Nat.zero_le _⟩ (fun r3 σ3 H locs q3 hP1 hS1 => ?_)
    replace hP := hP1
    replace hS := hS1
    clear hP1 hS1
    try dsimp only at q3
    obtain ⟨w3, f3⟩ := q3
    replace hC := hC.tr (w3.mono (dS28_14 h0))
    replace t0 : σ3 (h0 + 1) 2 = σ (h0 + 1) 2 := (w3 (h0 + 1) 2 (dS28_13 h0)).trans t0
    replace t1 : σ3 (h0 + 1) 3 = σ (h0 + 1) 3 := (w3 (h0 + 1) 3 (dS28_13 h0)).trans t1
    replace t2 : σ3 (h0 + 1) 0 = σ (h0 + 1) 0 := (w3 (h0 + 1) 0 (dS28_13 h0)).trans t2
    replace t3 : σ3 (h0 + 1) 4 = σ (h0 + 1) 4 := (w3 (h0 + 1) 4 (dS28_13 h0)).trans t3
    replace t4 : σ3 (h0 + 1) 5 = σ (h0 + 1) 5 := (w3 (h0 + 1) 5 (dS28_13 h0)).trans t4
    replace t5 : σ3 (h0 + 1) 6 = σ (h0 + 1) 6 := (w3 (h0 + 1) 6 (dS28_13 h0)).trans t5
    replace t6 : σ3 (h0 + 1) 1 = σ (h0 + 1) 1 := (w3 (h0 + 1) 1 (dS28_13 h0)).trans t6
    exact zz_iret hx hb hr hlocks hK hP hS dX9_forgets_40 (by exact ⟨hC, (hJ.soft (w3.mono (by intro a k h; omega))), Or.inl ⟨by omega, by omega, by rw [zz_DMk (a := h0 + 1) w3 (by intro i h1 h2; first | (dsimp only; omega) | omega)]⟩⟩)
  · have c2 := zz_neT c2
    refine lv_iload_n hx hb dX9_forgets_8 rfl (lv_at hl 2 rfl) ?_
    refine lv_iconst (v := 0) hx hb dX9_forgets_9 (by decide) ?_
    refine lv_iconst (v := 1) hx hb dX9_forgets_10 (by decide) ?_
    refine zz_callSp (As := [.int is, .int 0, .int 1]) (rest := []) ⟨hx, hb, hml, hown, hts⟩ hK hP hS (c_X9_in l E σ is 0 1) (va_cwS 3 hts gX9_forgets_X9_in rfl rfl rfl (by decide +kernel) ⟨Nat.le_of_ble_eq_true rfl, Nat.le_of_ble_eq_true rfl⟩) rfl hl.1 rfl (Nat.le_of_ble_eq_true rfl) dX9_forgets_11 ⟨Nat.zero_le _, Nat.zero_le _⟩ (fun r4 H locs f4 hP1 hS1 => ?_)
    replace hP := hP1
    replace hS := hS1
    clear hP1 hS1
    refine lv_if_eq (tgt := 34) hx hb dX9_forgets_14 (by decide) (fun c5 => ?_) (fun c5 => ?_)
    · have c5 := zz_eqT c5
      refine lv_aload_n hx hb dX9_forgets_34 rfl (lv_at hl 0 rfl) ?_
      refine lv_ldc (v := (-1000000001)) hx hb hown (hts (.constant RX9 93 (-1000000001)) (List.mem_cons_of_mem _ bm_138)) dX9_forgets_35 ?_
      refine zz_callVi (As := [.int (-1000000001)]) (rest := []) ⟨hx, hb, hml, hown, hts⟩ hK hP hS (c_X9_error l E σ h0 (-1000000001) g0 (by omega)) (cwV 1 hts gX9_forgets_X9_error rfl rfl rfl (by decide +kernel) ⟨Nat.le_of_ble_eq_true rfl, Nat.le_of_ble_eq_true rfl⟩) (g0.1) rfl rfl hl.1 rfl (Nat.le_of_ble_eq_true rfl) dX9_forgets_37 ⟨Nat.zero_le _, Nat.zero_le _⟩ (fun r6 σ6 H locs q6 hP1 hS1 => ?_)
      replace hP := hP1
      replace hS := hS1
      clear hP1 hS1
      try dsimp only at q6
      obtain ⟨w6, f6⟩ := q6
      replace hC := hC.tr (w6.mono (dS28_14 h0))
      replace t0 : σ6 (h0 + 1) 2 = σ (h0 + 1) 2 := (w6 (h0 + 1) 2 (dS28_13 h0)).trans t0
      replace t1 : σ6 (h0 + 1) 3 = σ (h0 + 1) 3 := (w6 (h0 + 1) 3 (dS28_13 h0)).trans t1
      replace t2 : σ6 (h0 + 1) 0 = σ (h0 + 1) 0 := (w6 (h0 + 1) 0 (dS28_13 h0)).trans t2
      replace t3 : σ6 (h0 + 1) 4 = σ (h0 + 1) 4 := (w6 (h0 + 1) 4 (dS28_13 h0)).trans t3
      replace t4 : σ6 (h0 + 1) 5 = σ (h0 + 1) 5 := (w6 (h0 + 1) 5 (dS28_13 h0)).trans t4
      replace t5 : σ6 (h0 + 1) 6 = σ (h0 + 1) 6 := (w6 (h0 + 1) 6 (dS28_13 h0)).trans t5
      replace t6 : σ6 (h0 + 1) 1 = σ (h0 + 1) 1 := (w6 (h0 + 1) 1 (dS28_13 h0)).trans t6
      exact zz_iret hx hb hr hlocks hK hP hS dX9_forgets_40 (by exact ⟨hC, (hJ.soft (w6.mono (by intro a k h; omega))), Or.inl ⟨by omega, by omega, by rw [zz_DMk (a := h0 + 1) w6 (by intro i h1 h2; first | (dsimp only; omega) | omega)]⟩⟩)
    · have c5 := zz_neT c5
      refine lv_aload_n hx hb dX9_forgets_17 rfl (lv_at hl 0 rfl) ?_
      refine lv_bipush (v := 7) hx hb dX9_forgets_18 (by decide) ?_
      refine lv_bipush (v := 6) hx hb dX9_forgets_20 (by decide) ?_
      refine lv_iload_n hx hb dX9_forgets_22 rfl (lv_at hl 1 rfl) ?_
      refine lv_imul hx hb dX9_forgets_23 ?_
      refine lv_topi (fun n7 e7 => ?_)
      have f7 : n7.toInt = 6 * (dm).toInt := zz_mulL 6 e7 (by decide) (by omega) (by omega)
      refine lv_iadd hx hb dX9_forgets_24 ?_
      refine lv_topi (fun n8 e8 => ?_)
      have f8 : n8.toInt = (7 : Int32).toInt + (n7).toInt := zz_addT e8 (by omega) (by omega)
      refine lv_iconst (v := 5) hx hb dX9_forgets_25 (by decide) ?_
      refine lv_iadd hx hb dX9_forgets_26 ?_
      refine lv_topi (fun n9 e9 => ?_)
      have f9 : n9.toInt = (n8).toInt + (5 : Int32).toInt := zz_addT e9 (by omega) (by omega)
      refine lv_iload_n hx hb dX9_forgets_27 rfl (lv_at hl 2 rfl) ?_
      refine zz_callVi (As := [.int n9, .int is]) (rest := []) ⟨hx, hb, hml, hown, hts⟩ hK hP hS (c_X9_becomes l E σ h0 n9 is g0 (by omega)) (cwV 2 hts gX9_forgets_X9_becomes rfl rfl rfl (by decide +kernel) ⟨Nat.le_of_ble_eq_true rfl, Nat.le_of_ble_eq_true rfl⟩) (g0.1) rfl rfl hl.1 rfl (Nat.le_of_ble_eq_true rfl) dX9_forgets_28 ⟨Nat.zero_le _, Nat.zero_le _⟩ (fun r10 σ10 H locs q10 hP1 hS1 => ?_)
      replace hP := hP1
      replace hS := hS1
      clear hP1 hS1
      try dsimp only at q10
      obtain ⟨w10, f10⟩ := q10
      replace hC := hC.tr (w10.mono (by intro a k h; first | (dsimp only at h ⊢; omega) | omega | (dsimp only at h; omega) | (dsimp only; omega)))
      replace t0 : σ10 (h0 + 1) 2 = σ (h0 + 1) 2 := (w10 _ _ (by first | (dsimp only; omega) | omega)).trans t0
      replace t1 : σ10 (h0 + 1) 3 = σ (h0 + 1) 3 := (w10 _ _ (by first | (dsimp only; omega) | omega)).trans t1
      replace t2 : σ10 (h0 + 1) 0 = σ (h0 + 1) 0 := (w10 _ _ (by first | (dsimp only; omega) | omega)).trans t2
      replace t3 : σ10 (h0 + 1) 4 = σ (h0 + 1) 4 := (w10 _ _ (by first | (dsimp only; omega) | omega)).trans t3
      replace t4 : σ10 (h0 + 1) 5 = σ (h0 + 1) 5 := (w10 _ _ (by first | (dsimp only; omega) | omega)).trans t4
      replace t5 : σ10 (h0 + 1) 6 = σ (h0 + 1) 6 := (w10 _ _ (by first | (dsimp only; omega) | omega)).trans t5
      replace t6 : σ10 (h0 + 1) 1 = σ (h0 + 1) 1 := (w10 _ _ (by first | (dsimp only; omega) | omega)).trans t6
      refine lv_goto (tgt := 40) hx hb dX9_forgets_31 (by decide) ?_
      have hr9 : r10.toInt = zz_DM σ (h0 + 1) dm.toInt.toNat 5 := by rw [f10.1, zz_DM.at (by omega) (by decide)]; exact congrArg (fun q => (σ (h0 + 1) q).toInt) (by omega)
      exact zz_iret hx hb hr hlocks hK hP hS dX9_forgets_40 (by exact ⟨hC, (hJ.row (hI.scal (fun k hk => hC _ _ (by first | (dsimp only; omega) | omega)) (fun j hj => by rw [w10 _ _ (by first | (dsimp only; omega) | omega)]; exact hM j hj) (by rw [t2]; omega) (by rw [t3]; omega) (by rw [t0]; omega) (by rw [t1]; omega) (by rw [t4]; omega) (by rw [t5]; omega)) (hC.mono (by intro a k h; first | (dsimp only at h ⊢; omega) | omega))), Or.inr ⟨by omega, hr9, by rw [zz_DMw (d := dm.toInt) dm.toInt.toNat 5 f10.2.2 (by omega) (by omega) (by omega) (by decide)]⟩⟩)
theorem gX9_takesTo_X9_isPerson : GoodIn wzX9_takesTo (wsV RX9 108 RX9 yX9_isPerson wzX9_isPerson) := wz_co bm_377 (wz_co bm_378 (wz_co bm_379 (wz_co bm_5 (wz_in bm_380))))
theorem gX9_takesTo_X9_in : GoodIn wzX9_takesTo (va_wsS RX9 47 yX9_in wzX9_in) := wz_co bm_143 (wz_co bm_144 (wz_co bm_5 (wz_in bm_145)))
theorem gX9_takesTo_X9_becomes : GoodIn wzX9_takesTo (wsV RX9 104 RX9 yX9_becomes wzX9_becomes) := wz_co bm_278 (wz_co bm_279 (wz_co bm_280 (wz_co bm_5 (wz_in bm_281))))
theorem gX9_takesTo_X9_error : GoodIn wzX9_takesTo (wsV RX9 94 RX9 yX9_error wzX9_error) := wz_co bm_146 (wz_co bm_147 (wz_co bm_148 (wz_co bm_5 (wz_in bm_149))))
theorem dS28_15 (x0 : Nat) : ∀ a k : Nat, (a = (x0) + 3) → ((a = x0 + 3 ∨ (x0 + 7 ≤ a ∧ a ≤ x0 + 11)) ∨ (a = x0 + 1 ∧ 61 ≤ k ∧ k < 73 ∧ k % 2 = 1)) := by intro a k h; omega
set_option maxHeartbeats 4000000 in
set_option maxRecDepth 100000 in
theorem c_X9_takesTo (l : Launch) (E : zz_E) (σ : zz_S) (h0 : Nat) (ps : Int32) (wo : Int32) (g0 : zz_M E h0) (hJ : zz_IM σ h0) : Met l yX9_takesTo wzX9_takesTo ({ frames := 2, cells := 0, slots := 0, locals := 43 }) (va_Pc [.ref h0, .int ps, .int wo] (zz_B E σ)) (va_Qi (fun r σ1 => zz_ch (fun a k => (a = h0 + 3 ∨ (h0 + 7 ≤ a ∧ a ≤ h0 + 11)) ∨ (a = h0 + 1 ∧ 61 ≤ k ∧ k < 73 ∧ k % 2 = 1)) σ σ1 ∧ (zz_IM σ1 h0 ∧ ((¬ (0 ≤ ps.toInt ∧ ps.toInt < (σ (h0 + 1) 3).toInt ∧ 0 ≤ wo.toInt ∧ wo.toInt ≤ 1023) ∧ r.toInt = -1000000001 ∧ zz_PM 0 σ1 (h0 + 1) = zz_PM 0 σ (h0 + 1)) ∨ ((0 ≤ ps.toInt ∧ ps.toInt < (σ (h0 + 1) 3).toInt ∧ 0 ≤ wo.toInt ∧ wo.toInt ≤ 1023) ∧ r.toInt = zz_PM 0 σ (h0 + 1) ps.toInt.toNat ∧ zz_PM 0 σ1 (h0 + 1) = zz_wn (zz_PM 0 σ (h0 + 1)) ps.toInt wo.toInt)))) (zz_B E) (zz_A E)) 0 0 (zz_A E) := by
  refine zz_met (cc := cX9_takesTo) (maxL := 3) (ret := (some .int)) (by decide) rfl (Nat.le_of_ble_eq_true rfl) ?_
  intro p e s m args below meth c ls hx hb hr hts hown hlocks hml hK hP hS hl
  have hl : lv_has ls 3 [(0, .ref h0), (1, .int ps), (2, .int wo)] := hl
  have hown : s.vm.findClass RX9 = some m.cls := hown
  have k_m1000000001 : ((-1000000001) : Int32).toInt = -1000000001 := by decide +kernel
  have k_0 : (0 : Int32).toInt = 0 := by decide +kernel
  have k_2 : (2 : Int32).toInt = 2 := by decide +kernel
  have k_61 : (61 : Int32).toInt = 61 := by decide +kernel
  have k_1023 : (1023 : Int32).toInt = 1023 := by decide +kernel
  replace t0 : σ (h0 + 1) 2 = σ (h0 + 1) 2 := rfl
  replace t1 : σ (h0 + 1) 3 = σ (h0 + 1) 3 := rfl
  replace t2 : σ (h0 + 1) 0 = σ (h0 + 1) 0 := rfl
  replace t3 : σ (h0 + 1) 4 = σ (h0 + 1) 4 := rfl
  replace t4 : σ (h0 + 1) 5 = σ (h0 + 1) 5 := rfl
  replace t5 : σ (h0 + 1) 6 = σ (h0 + 1) 6 := rfl
  replace t6 : σ (h0 + 1) 1 = σ (h0 + 1) 1 := rfl
  have hC : zz_ch (fun a k => (a = h0 + 3 ∨ (h0 + 7 ≤ a ∧ a ≤ h0 + 11)) ∨ (a = h0 + 1 ∧ 61 ≤ k ∧ k < 73 ∧ k % 2 = 1)) σ σ := zz_ch.rf σ
  have hI := hJ.1
  obtain ⟨hh, hsl, hd, hp, htc, hwc, hM, hT⟩ := id hI
  have hz5 := hJ.2.2.1
  have htr := hJ.2.2.2
  refine lv_aload_n hx hb dX9_takesTo_0 rfl (lv_at hl 0 rfl) ?_
  refine lv_iload_n hx hb dX9_takesTo_1 rfl (lv_at hl 1 rfl) ?_
  refine zz_callVp (As := [.int ps]) (rest := []) ⟨hx, hb, hml, hown, hts⟩ hK hP hS (c_X9_isPerson l E σ h0 ps g0 (by exact hp)) (cwV 1 hts gX9_takesTo_X9_isPerson rfl rfl rfl (by decide +kernel) ⟨Nat.le_of_ble_eq_true rfl, Nat.le_of_ble_eq_true rfl⟩) (g0.1) rfl rfl hl.1 rfl (Nat.le_of_ble_eq_true rfl) dX9_takesTo_2 ⟨Nat.zero_le _, Nat.zero_le _⟩ (fun r1 H locs f1 hP1 hS1 => ?_)
  replace hP := hP1
  replace hS := hS1
  clear hP1 hS1
  refine lv_if_eq (tgt := 33) hx hb dX9_takesTo_5 (by decide) (fun c2 => ?_) (fun c2 => ?_)
  · have c2 := zz_eqT c2
    refine lv_aload_n hx hb dX9_takesTo_33 rfl (lv_at hl 0 rfl) ?_
    refine lv_ldc (v := (-1000000001)) hx hb hown (hts (.constant RX9 93 (-1000000001)) (List.mem_cons_of_mem _ bm_138)) dX9_takesTo_34 ?_
    refine zz_callVi (As := [.int (-1000000001)]) (rest := []) ⟨hx, hb, hml, hown, hts⟩ hK hP hS (c_X9_error l E σ h0 (-1000000001) g0 (by omega)) (cwV 1 hts gX9_takesTo_X9_error rfl rfl rfl (by decide +kernel) ⟨Nat.le_of_ble_eq_true rfl, Nat.le_of_ble_eq_true rfl⟩) (g0.1) rfl rfl hl.1 rfl (Nat.le_of_ble_eq_true rfl) dX9_takesTo_36 ⟨Nat.zero_le _, Nat.zero_le _⟩ (fun r3 σ3 H locs q3 hP1 hS1 => ?_)
    replace hP := hP1
    replace hS := hS1
    clear hP1 hS1
    try dsimp only at q3
    obtain ⟨w3, f3⟩ := q3
    replace hC := hC.tr (w3.mono (dS28_15 h0))
    replace t0 : σ3 (h0 + 1) 2 = σ (h0 + 1) 2 := (w3 (h0 + 1) 2 (dS28_13 h0)).trans t0
    replace t1 : σ3 (h0 + 1) 3 = σ (h0 + 1) 3 := (w3 (h0 + 1) 3 (dS28_13 h0)).trans t1
    replace t2 : σ3 (h0 + 1) 0 = σ (h0 + 1) 0 := (w3 (h0 + 1) 0 (dS28_13 h0)).trans t2
    replace t3 : σ3 (h0 + 1) 4 = σ (h0 + 1) 4 := (w3 (h0 + 1) 4 (dS28_13 h0)).trans t3
    replace t4 : σ3 (h0 + 1) 5 = σ (h0 + 1) 5 := (w3 (h0 + 1) 5 (dS28_13 h0)).trans t4
    replace t5 : σ3 (h0 + 1) 6 = σ (h0 + 1) 6 := (w3 (h0 + 1) 6 (dS28_13 h0)).trans t5
    replace t6 : σ3 (h0 + 1) 1 = σ (h0 + 1) 1 := (w3 (h0 + 1) 1 (dS28_13 h0)).trans t6
    exact zz_iret hx hb hr hlocks hK hP hS dX9_takesTo_39 (by exact ⟨hC, (hJ.soft (w3.mono (by intro a k h; omega))), Or.inl ⟨by omega, by omega, by rw [zz_PMk (f := 0) (a := h0 + 1) w3 (by intro i hi; first | (dsimp only; omega) | omega)]⟩⟩)
  · have c2 := zz_neT c2
    refine lv_iload_n hx hb dX9_takesTo_8 rfl (lv_at hl 2 rfl) ?_
    refine lv_iconst (v := 0) hx hb dX9_takesTo_9 (by decide) ?_
    refine lv_sipush (v := 1023) hx hb dX9_takesTo_10 (by decide) ?_
    refine zz_callSp (As := [.int wo, .int 0, .int 1023]) (rest := []) ⟨hx, hb, hml, hown, hts⟩ hK hP hS (c_X9_in l E σ wo 0 1023) (va_cwS 3 hts gX9_takesTo_X9_in rfl rfl rfl (by decide +kernel) ⟨Nat.le_of_ble_eq_true rfl, Nat.le_of_ble_eq_true rfl⟩) rfl hl.1 rfl (Nat.le_of_ble_eq_true rfl) dX9_takesTo_13 ⟨Nat.zero_le _, Nat.zero_le _⟩ (fun r4 H locs f4 hP1 hS1 => ?_)
    replace hP := hP1
    replace hS := hS1
    clear hP1 hS1
    refine lv_if_eq (tgt := 33) hx hb dX9_takesTo_16 (by decide) (fun c5 => ?_) (fun c5 => ?_)
    · have c5 := zz_eqT c5
      refine lv_aload_n hx hb dX9_takesTo_33 rfl (lv_at hl 0 rfl) ?_
      refine lv_ldc (v := (-1000000001)) hx hb hown (hts (.constant RX9 93 (-1000000001)) (List.mem_cons_of_mem _ bm_138)) dX9_takesTo_34 ?_
      refine zz_callVi (As := [.int (-1000000001)]) (rest := []) ⟨hx, hb, hml, hown, hts⟩ hK hP hS (c_X9_error l E σ h0 (-1000000001) g0 (by omega)) (cwV 1 hts gX9_takesTo_X9_error rfl rfl rfl (by decide +kernel) ⟨Nat.le_of_ble_eq_true rfl, Nat.le_of_ble_eq_true rfl⟩) (g0.1) rfl rfl hl.1 rfl (Nat.le_of_ble_eq_true rfl) dX9_takesTo_36 ⟨Nat.zero_le _, Nat.zero_le _⟩ (fun r6 σ6 H locs q6 hP1 hS1 => ?_)
      replace hP := hP1
      replace hS := hS1
      clear hP1 hS1
      try dsimp only at q6
      obtain ⟨w6, f6⟩ := q6
      replace hC := hC.tr (w6.mono (dS28_15 h0))
      replace t0 : σ6 (h0 + 1) 2 = σ (h0 + 1) 2 := (w6 (h0 + 1) 2 (dS28_13 h0)).trans t0
      replace t1 : σ6 (h0 + 1) 3 = σ (h0 + 1) 3 := (w6 (h0 + 1) 3 (dS28_13 h0)).trans t1
      replace t2 : σ6 (h0 + 1) 0 = σ (h0 + 1) 0 := (w6 (h0 + 1) 0 (dS28_13 h0)).trans t2
      replace t3 : σ6 (h0 + 1) 4 = σ (h0 + 1) 4 := (w6 (h0 + 1) 4 (dS28_13 h0)).trans t3
      replace t4 : σ6 (h0 + 1) 5 = σ (h0 + 1) 5 := (w6 (h0 + 1) 5 (dS28_13 h0)).trans t4
      replace t5 : σ6 (h0 + 1) 6 = σ (h0 + 1) 6 := (w6 (h0 + 1) 6 (dS28_13 h0)).trans t5
      replace t6 : σ6 (h0 + 1) 1 = σ (h0 + 1) 1 := (w6 (h0 + 1) 1 (dS28_13 h0)).trans t6
      exact zz_iret hx hb hr hlocks hK hP hS dX9_takesTo_39 (by exact ⟨hC, (hJ.soft (w6.mono (by intro a k h; omega))), Or.inl ⟨by omega, by omega, by rw [zz_PMk (f := 0) (a := h0 + 1) w6 (by intro i hi; first | (dsimp only; omega) | omega)]⟩⟩)
    · have c5 := zz_neT c5
      refine lv_aload_n hx hb dX9_takesTo_19 rfl (lv_at hl 0 rfl) ?_
      refine lv_bipush (v := 61) hx hb dX9_takesTo_20 (by decide) ?_
      refine lv_iconst (v := 2) hx hb dX9_takesTo_22 (by decide) ?_
      refine lv_iload_n hx hb dX9_takesTo_23 rfl (lv_at hl 1 rfl) ?_
      refine lv_imul hx hb dX9_takesTo_24 ?_
      refine lv_topi (fun n7 e7 => ?_)
      have f7 : n7.toInt = 2 * (ps).toInt := zz_mulL 2 e7 (by decide) (by omega) (by omega)
      refine lv_iadd hx hb dX9_takesTo_25 ?_
      refine lv_topi (fun n8 e8 => ?_)
      have f8 : n8.toInt = (61 : Int32).toInt + (n7).toInt := zz_addT e8 (by omega) (by omega)
      refine lv_iload_n hx hb dX9_takesTo_26 rfl (lv_at hl 2 rfl) ?_
      refine zz_callVi (As := [.int n8, .int wo]) (rest := []) ⟨hx, hb, hml, hown, hts⟩ hK hP hS (c_X9_becomes l E σ h0 n8 wo g0 (by omega)) (cwV 2 hts gX9_takesTo_X9_becomes rfl rfl rfl (by decide +kernel) ⟨Nat.le_of_ble_eq_true rfl, Nat.le_of_ble_eq_true rfl⟩) (g0.1) rfl rfl hl.1 rfl (Nat.le_of_ble_eq_true rfl) dX9_takesTo_27 ⟨Nat.zero_le _, Nat.zero_le _⟩ (fun r9 σ9 H locs q9 hP1 hS1 => ?_)
      replace hP := hP1
      replace hS := hS1
      clear hP1 hS1
      try dsimp only at q9
      obtain ⟨w9, f9⟩ := q9
      replace hC := hC.tr (w9.mono (by intro a k h; first | (dsimp only at h ⊢; omega) | omega | (dsimp only at h; omega) | (dsimp only; omega)))
      replace t0 : σ9 (h0 + 1) 2 = σ (h0 + 1) 2 := (w9 _ _ (by first | (dsimp only; omega) | omega)).trans t0
      replace t1 : σ9 (h0 + 1) 3 = σ (h0 + 1) 3 := (w9 _ _ (by first | (dsimp only; omega) | omega)).trans t1
      replace t2 : σ9 (h0 + 1) 0 = σ (h0 + 1) 0 := (w9 _ _ (by first | (dsimp only; omega) | omega)).trans t2
      replace t3 : σ9 (h0 + 1) 4 = σ (h0 + 1) 4 := (w9 _ _ (by first | (dsimp only; omega) | omega)).trans t3
      replace t4 : σ9 (h0 + 1) 5 = σ (h0 + 1) 5 := (w9 _ _ (by first | (dsimp only; omega) | omega)).trans t4
      replace t5 : σ9 (h0 + 1) 6 = σ (h0 + 1) 6 := (w9 _ _ (by first | (dsimp only; omega) | omega)).trans t5
      replace t6 : σ9 (h0 + 1) 1 = σ (h0 + 1) 1 := (w9 _ _ (by first | (dsimp only; omega) | omega)).trans t6
      refine lv_goto (tgt := 39) hx hb dX9_takesTo_30 (by decide) ?_
      have hr9 : r9.toInt = zz_PM 0 σ (h0 + 1) ps.toInt.toNat := by rw [f9.1, zz_PM.at (by omega)]; exact congrArg (fun q => (σ (h0 + 1) q).toInt) (by omega)
      exact zz_iret hx hb hr hlocks hK hP hS dX9_takesTo_39 (by exact ⟨hC, (hJ.row (hI.scal (fun k hk => hC _ _ (by first | (dsimp only; omega) | omega)) (fun j hj => by rw [w9 _ _ (by first | (dsimp only; omega) | omega)]; exact hM j hj) (by rw [t2]; omega) (by rw [t3]; omega) (by rw [t0]; omega) (by rw [t1]; omega) (by rw [t4]; omega) (by rw [t5]; omega)) (hC.mono (by intro a k h; first | (dsimp only at h ⊢; omega) | omega))), Or.inr ⟨by omega, hr9, by rw [zz_PMw (d := ps.toInt) ps.toInt.toNat 0 f9.2.2 (by omega) (by omega) (by omega) (by decide)]⟩⟩)
theorem gX9_become_X9_isDream : GoodIn wzX9_become (wsV RX9 101 RX9 yX9_isDream wzX9_isDream) := wz_co bm_236 (wz_co bm_237 (wz_co bm_238 (wz_co bm_5 (wz_in bm_239))))
theorem gX9_become_X9_isKm : GoodIn wzX9_become (va_wsS RX9 89 yX9_isKm wzX9_isKm) := wz_co bm_140 (wz_co bm_141 (wz_co bm_5 (wz_in bm_142)))
theorem gX9_become_X9_error : GoodIn wzX9_become (wsV RX9 94 RX9 yX9_error wzX9_error) := wz_co bm_146 (wz_co bm_147 (wz_co bm_148 (wz_co bm_5 (wz_in bm_149))))
theorem gX9_become_X9_becomes : GoodIn wzX9_become (wsV RX9 104 RX9 yX9_becomes wzX9_becomes) := wz_co bm_278 (wz_co bm_279 (wz_co bm_280 (wz_co bm_5 (wz_in bm_281))))
set_option maxHeartbeats 4000000 in
set_option maxRecDepth 100000 in
theorem c_X9_become (l : Launch) (E : zz_E) (σ : zz_S) (h0 : Nat) (dm : Int32) (km : Int32) (g0 : zz_M E h0) (hJ : zz_IM σ h0) : Met l yX9_become wzX9_become ({ frames := 2, cells := 0, slots := 0, locals := 43 }) (va_Pc [.ref h0, .int dm, .int km] (zz_B E σ)) (va_Qi (fun r σ1 => zz_ch (fun a k => (a = h0 + 3 ∨ (h0 + 7 ≤ a ∧ a ≤ h0 + 11)) ∨ (a = h0 + 1 ∧ 7 ≤ k ∧ k < 61)) σ σ1 ∧ (zz_IM σ1 h0 ∧ ((¬ (0 ≤ dm.toInt ∧ dm.toInt < (σ (h0 + 1) 2).toInt ∧ 0 ≤ km.toInt ∧ km.toInt ≤ 69) ∧ r.toInt = -1000000001 ∧ zz_DM σ1 (h0 + 1) = zz_DM σ (h0 + 1)) ∨ ((0 ≤ dm.toInt ∧ dm.toInt < (σ (h0 + 1) 2).toInt ∧ 0 ≤ km.toInt ∧ km.toInt ≤ 69) ∧ r.toInt = zz_DM σ (h0 + 1) dm.toInt.toNat 0 ∧ zz_DM σ1 (h0 + 1) = zz_ds (zz_ds (zz_DM σ (h0 + 1)) dm.toInt 0 (km.toInt / 10)) dm.toInt 1 (km.toInt % 10))))) (zz_B E) (zz_A E)) 0 0 (zz_A E) := by
  refine zz_met (cc := cX9_become) (maxL := 3) (ret := (some .int)) (by decide) rfl (Nat.le_of_ble_eq_true rfl) ?_
  intro p e s m args below meth c ls hx hb hr hts hown hlocks hml hK hP hS hl
  have hl : lv_has ls 3 [(0, .ref h0), (1, .int dm), (2, .int km)] := hl
  have hown : s.vm.findClass RX9 = some m.cls := hown
  have hi9 : ∀ w ∈ wsX90, w ∈ wzX9_become := fun w h => List.mem_cons_of_mem _ (hbw9 w h)
  have k_m1000000001 : ((-1000000001) : Int32).toInt = -1000000001 := by decide +kernel
  have k_0 : (0 : Int32).toInt = 0 := by decide +kernel
  have k_1 : (1 : Int32).toInt = 1 := by decide +kernel
  have k_6 : (6 : Int32).toInt = 6 := by decide +kernel
  have k_7 : (7 : Int32).toInt = 7 := by decide +kernel
  have k_10 : (10 : Int32).toInt = 10 := by decide +kernel
  replace t0 : σ (h0 + 1) 2 = σ (h0 + 1) 2 := rfl
  replace t1 : σ (h0 + 1) 3 = σ (h0 + 1) 3 := rfl
  replace t2 : σ (h0 + 1) 0 = σ (h0 + 1) 0 := rfl
  replace t3 : σ (h0 + 1) 4 = σ (h0 + 1) 4 := rfl
  replace t4 : σ (h0 + 1) 5 = σ (h0 + 1) 5 := rfl
  replace t5 : σ (h0 + 1) 6 = σ (h0 + 1) 6 := rfl
  replace t6 : σ (h0 + 1) 1 = σ (h0 + 1) 1 := rfl
  have hC : zz_ch (fun a k => (a = h0 + 3 ∨ (h0 + 7 ≤ a ∧ a ≤ h0 + 11)) ∨ (a = h0 + 1 ∧ 7 ≤ k ∧ k < 61)) σ σ := zz_ch.rf σ
  have hI := hJ.1
  obtain ⟨hh, hsl, hd, hp, htc, hwc, hM, hT⟩ := id hI
  have hz5 := hJ.2.2.1
  have htr := hJ.2.2.2
  refine lv_aload_n hx hb dX9_become_0 rfl (lv_at hl 0 rfl) ?_
  refine lv_iload_n hx hb dX9_become_1 rfl (lv_at hl 1 rfl) ?_
  refine zz_callVp (As := [.int dm]) (rest := []) ⟨hx, hb, hml, hown, hts⟩ hK hP hS (c_X9_isDream l E σ h0 dm g0 (by exact hd)) (cwV 1 hts gX9_become_X9_isDream rfl rfl rfl (by decide +kernel) ⟨Nat.le_of_ble_eq_true rfl, Nat.le_of_ble_eq_true rfl⟩) (g0.1) rfl rfl hl.1 rfl (Nat.le_of_ble_eq_true rfl) dX9_become_2 ⟨Nat.zero_le _, Nat.zero_le _⟩ (fun r1 H locs f1 hP1 hS1 => ?_)
  replace hP := hP1
  replace hS := hS1
  clear hP1 hS1
  refine lv_if_eq (tgt := 15) hx hb dX9_become_5 (by decide) (fun c2 => ?_) (fun c2 => ?_)
  · have c2 := zz_eqT c2
    refine lv_aload_n hx hb dX9_become_15 rfl (lv_at hl 0 rfl) ?_
    refine lv_ldc (v := (-1000000001)) hx hb hown (hts (.constant RX9 93 (-1000000001)) (List.mem_cons_of_mem _ bm_138)) dX9_become_16 ?_
    refine zz_callVi (As := [.int (-1000000001)]) (rest := []) ⟨hx, hb, hml, hown, hts⟩ hK hP hS (c_X9_error l E σ h0 (-1000000001) g0 (by omega)) (cwV 1 hts gX9_become_X9_error rfl rfl rfl (by decide +kernel) ⟨Nat.le_of_ble_eq_true rfl, Nat.le_of_ble_eq_true rfl⟩) (g0.1) rfl rfl hl.1 rfl (Nat.le_of_ble_eq_true rfl) dX9_become_18 ⟨Nat.zero_le _, Nat.zero_le _⟩ (fun r3 σ3 H locs q3 hP1 hS1 => ?_)
    replace hP := hP1
    replace hS := hS1
    clear hP1 hS1
    try dsimp only at q3
    obtain ⟨w3, f3⟩ := q3
    replace hC := hC.tr (w3.mono (dS28_14 h0))
    replace t0 : σ3 (h0 + 1) 2 = σ (h0 + 1) 2 := (w3 (h0 + 1) 2 (dS28_13 h0)).trans t0
    replace t1 : σ3 (h0 + 1) 3 = σ (h0 + 1) 3 := (w3 (h0 + 1) 3 (dS28_13 h0)).trans t1
    replace t2 : σ3 (h0 + 1) 0 = σ (h0 + 1) 0 := (w3 (h0 + 1) 0 (dS28_13 h0)).trans t2
    replace t3 : σ3 (h0 + 1) 4 = σ (h0 + 1) 4 := (w3 (h0 + 1) 4 (dS28_13 h0)).trans t3
    replace t4 : σ3 (h0 + 1) 5 = σ (h0 + 1) 5 := (w3 (h0 + 1) 5 (dS28_13 h0)).trans t4
    replace t5 : σ3 (h0 + 1) 6 = σ (h0 + 1) 6 := (w3 (h0 + 1) 6 (dS28_13 h0)).trans t5
    replace t6 : σ3 (h0 + 1) 1 = σ (h0 + 1) 1 := (w3 (h0 + 1) 1 (dS28_13 h0)).trans t6
    exact zz_iret hx hb hr hlocks hK hP hS dX9_become_21 (by exact ⟨hC, (hJ.soft (w3.mono (by intro a k h; omega))), Or.inl ⟨by omega, by omega, by rw [zz_DMk (a := h0 + 1) w3 (by intro i h1 h2; first | (dsimp only; omega) | omega)]⟩⟩)
  · have c2 := zz_neT c2
    refine lv_iload_n hx hb dX9_become_8 rfl (lv_at hl 2 rfl) ?_
    refine zz_callSp (As := [.int km]) (rest := []) ⟨hx, hb, hml, hown, hts⟩ hK hP hS (c_X9_isKm l E σ km) (va_cwS 1 hts gX9_become_X9_isKm rfl rfl rfl (by decide +kernel) ⟨Nat.le_of_ble_eq_true rfl, Nat.le_of_ble_eq_true rfl⟩) rfl hl.1 rfl (Nat.le_of_ble_eq_true rfl) dX9_become_9 ⟨Nat.zero_le _, Nat.zero_le _⟩ (fun r4 H locs f4 hP1 hS1 => ?_)
    replace hP := hP1
    replace hS := hS1
    clear hP1 hS1
    refine lv_if_ne (tgt := 22) hx hb dX9_become_12 (by decide) (fun c5 => ?_) (fun c5 => ?_)
    · have c5 := zz_neT c5
      refine lv_aload_n hx hb dX9_become_22 rfl (lv_at hl 0 rfl) ?_
      refine zz_getr hx hb hts hi9 hown hK hP (g0.1) rfl 0 (by decide) (hts (.fieldLink RX9 9 "NoonLawModel" "row" "[I") (List.mem_cons_of_mem _ bm_93)) rfl rfl dX9_become_23 ?_
      refine lv_bipush (v := 7) hx hb dX9_become_26 (by decide) ?_
      refine lv_bipush (v := 6) hx hb dX9_become_28 (by decide) ?_
      refine lv_iload_n hx hb dX9_become_30 rfl (lv_at hl 1 rfl) ?_
      refine lv_imul hx hb dX9_become_31 ?_
      refine lv_topi (fun n6 e6 => ?_)
      have f6 : n6.toInt = 6 * (dm).toInt := zz_mulL 6 e6 (by decide) (by omega) (by omega)
      refine lv_iadd hx hb dX9_become_32 ?_
      refine lv_topi (fun n7 e7 => ?_)
      have f7 : n7.toInt = (7 : Int32).toInt + (n6).toInt := zz_addT e7 (by omega) (by omega)
      refine lv_iconst (v := 1) hx hb dX9_become_33 (by decide) ?_
      refine lv_iadd hx hb dX9_become_34 ?_
      refine lv_topi (fun n8 e8 => ?_)
      have f8 : n8.toInt = (n7).toInt + (1 : Int32).toInt := zz_addT e8 (by omega) (by omega)
      refine lv_iload_n hx hb dX9_become_35 rfl (lv_at hl 2 rfl) ?_
      refine lv_bipush (v := 10) hx hb dX9_become_36 (by decide) ?_
      refine lv_irem hx hb dX9_become_38 (by decide) ?_
      refine lv_topi (fun n9 e9 => ?_)
      have f9 : n9.toInt = (km).toInt % 10 := zz_remT 10 e9 (by decide) (by omega)
      refine zz_iast hx hb hK hP hS (g0.2.1) (by omega) (by omega) dX9_become_39 (fun j10 σ10 H locs q10 r10 w10 hP1 hS1 => ?_)
      replace hP := hP1
      replace hS := hS1
      clear hP1 hS1
      replace hC := hC.u w10 (by first | (dsimp only; omega) | omega | (dsimp only; done))
      replace t0 : σ10 (h0 + 1) 2 = σ (h0 + 1) 2 := (zz_w (b := (h0 + 1)) (j := 2) w10 (by omega)).trans t0
      replace t1 : σ10 (h0 + 1) 3 = σ (h0 + 1) 3 := (zz_w (b := (h0 + 1)) (j := 3) w10 (by omega)).trans t1
      replace t2 : σ10 (h0 + 1) 0 = σ (h0 + 1) 0 := (zz_w (b := (h0 + 1)) (j := 0) w10 (by omega)).trans t2
      replace t3 : σ10 (h0 + 1) 4 = σ (h0 + 1) 4 := (zz_w (b := (h0 + 1)) (j := 4) w10 (by omega)).trans t3
      replace t4 : σ10 (h0 + 1) 5 = σ (h0 + 1) 5 := (zz_w (b := (h0 + 1)) (j := 5) w10 (by omega)).trans t4
      replace t5 : σ10 (h0 + 1) 6 = σ (h0 + 1) 6 := (zz_w (b := (h0 + 1)) (j := 6) w10 (by omega)).trans t5
      replace t6 : σ10 (h0 + 1) 1 = σ (h0 + 1) 1 := (zz_w (b := (h0 + 1)) (j := 1) w10 (by omega)).trans t6
      refine lv_aload_n hx hb dX9_become_40 rfl (lv_at hl 0 rfl) ?_
      refine lv_bipush (v := 7) hx hb dX9_become_41 (by decide) ?_
      refine lv_bipush (v := 6) hx hb dX9_become_43 (by decide) ?_
      refine lv_iload_n hx hb dX9_become_45 rfl (lv_at hl 1 rfl) ?_
      refine lv_imul hx hb dX9_become_46 ?_
      refine lv_topi (fun n11 e11 => ?_)
      have f11 : n11.toInt = 6 * (dm).toInt := zz_mulL 6 e11 (by decide) (by omega) (by omega)
      refine lv_iadd hx hb dX9_become_47 ?_
      refine lv_topi (fun n12 e12 => ?_)
      have f12 : n12.toInt = (7 : Int32).toInt + (n11).toInt := zz_addT e12 (by omega) (by omega)
      refine lv_iload_n hx hb dX9_become_48 rfl (lv_at hl 2 rfl) ?_
      refine lv_bipush (v := 10) hx hb dX9_become_49 (by decide) ?_
      refine lv_idiv hx hb dX9_become_51 (by decide) ?_
      refine lv_topi (fun n13 e13 => ?_)
      have f13 : n13.toInt = (km).toInt / 10 := zz_divT 10 e13 (by decide) (by omega)
      skip
      refine zz_callVi (As := [.int n12, .int n13]) (rest := []) ⟨hx, hb, hml, hown, hts⟩ hK hP hS (c_X9_becomes l E σ10 h0 n12 n13 g0 (by omega)) (cwV 2 hts gX9_become_X9_becomes rfl rfl rfl (by decide +kernel) ⟨Nat.le_of_ble_eq_true rfl, Nat.le_of_ble_eq_true rfl⟩) (g0.1) rfl rfl hl.1 rfl (Nat.le_of_ble_eq_true rfl) dX9_become_52 ⟨Nat.zero_le _, Nat.zero_le _⟩ (fun r14 σ14 H locs q14 hP1 hS1 => ?_)
      replace hP := hP1
      replace hS := hS1
      clear hP1 hS1
      try dsimp only at q14
      obtain ⟨w14, f14⟩ := q14
      replace hC := hC.tr (w14.mono (by intro a k h; first | (dsimp only at h ⊢; omega) | omega | (dsimp only at h; omega) | (dsimp only; omega)))
      try simp only [t0, t1, t2, t3, t4, t5, t6] at f14
      replace t0 : σ14 (h0 + 1) 2 = σ (h0 + 1) 2 := (w14 _ _ (by first | (dsimp only; omega) | omega)).trans t0
      replace t1 : σ14 (h0 + 1) 3 = σ (h0 + 1) 3 := (w14 _ _ (by first | (dsimp only; omega) | omega)).trans t1
      replace t2 : σ14 (h0 + 1) 0 = σ (h0 + 1) 0 := (w14 _ _ (by first | (dsimp only; omega) | omega)).trans t2
      replace t3 : σ14 (h0 + 1) 4 = σ (h0 + 1) 4 := (w14 _ _ (by first | (dsimp only; omega) | omega)).trans t3
      replace t4 : σ14 (h0 + 1) 5 = σ (h0 + 1) 5 := (w14 _ _ (by first | (dsimp only; omega) | omega)).trans t4
      replace t5 : σ14 (h0 + 1) 6 = σ (h0 + 1) 6 := (w14 _ _ (by first | (dsimp only; omega) | omega)).trans t5
      replace t6 : σ14 (h0 + 1) 1 = σ (h0 + 1) 1 := (w14 _ _ (by first | (dsimp only; omega) | omega)).trans t6
      have hr9 : r14.toInt = zz_DM σ (h0 + 1) dm.toInt.toNat 0 := by rw [f14.1, w10, zz_un (by omega), zz_DM.at (by omega) (by decide)]; exact congrArg (fun q => (σ (h0 + 1) q).toInt) (by omega)
      exact zz_iret hx hb hr hlocks hK hP hS dX9_become_55 (by exact ⟨hC, (hJ.row (hI.scal (fun k hk => hC _ _ (by first | (dsimp only; omega) | omega)) (fun j hj => by rw [w14 _ _ (by first | (dsimp only; omega) | omega)]; exact if hq : 8 + 6 * j = j10 then (by rw [w10, hq, zz_us]; omega) else (by rw [w10, zz_un (by omega)]; exact hM j hj)) (by rw [t2]; omega) (by rw [t3]; omega) (by rw [t0]; omega) (by rw [t1]; omega) (by rw [t4]; omega) (by rw [t5]; omega)) (hC.mono (by intro a k h; first | (dsimp only at h ⊢; omega) | omega))), Or.inr ⟨by omega, hr9, by rw [zz_DMw (d := dm.toInt) dm.toInt.toNat 0 f14.2.2 (by omega) (by omega) (by omega) (by decide), zz_DMw (d := dm.toInt) dm.toInt.toNat 1 w10 (by omega) (by omega) (by omega) (by decide), f9, f13, zz_ds_c (show 1 ≠ 0 by decide)]⟩⟩)
    · have c5 := zz_eqT c5
      refine lv_aload_n hx hb dX9_become_15 rfl (lv_at hl 0 rfl) ?_
      refine lv_ldc (v := (-1000000001)) hx hb hown (hts (.constant RX9 93 (-1000000001)) (List.mem_cons_of_mem _ bm_138)) dX9_become_16 ?_
      refine zz_callVi (As := [.int (-1000000001)]) (rest := []) ⟨hx, hb, hml, hown, hts⟩ hK hP hS (c_X9_error l E σ h0 (-1000000001) g0 (by omega)) (cwV 1 hts gX9_become_X9_error rfl rfl rfl (by decide +kernel) ⟨Nat.le_of_ble_eq_true rfl, Nat.le_of_ble_eq_true rfl⟩) (g0.1) rfl rfl hl.1 rfl (Nat.le_of_ble_eq_true rfl) dX9_become_18 ⟨Nat.zero_le _, Nat.zero_le _⟩ (fun r15 σ15 H locs q15 hP1 hS1 => ?_)
      replace hP := hP1
      replace hS := hS1
      clear hP1 hS1
      try dsimp only at q15
      obtain ⟨w15, f15⟩ := q15
      replace hC := hC.tr (w15.mono (dS28_14 h0))
      replace t0 : σ15 (h0 + 1) 2 = σ (h0 + 1) 2 := (w15 (h0 + 1) 2 (dS28_13 h0)).trans t0
      replace t1 : σ15 (h0 + 1) 3 = σ (h0 + 1) 3 := (w15 (h0 + 1) 3 (dS28_13 h0)).trans t1
      replace t2 : σ15 (h0 + 1) 0 = σ (h0 + 1) 0 := (w15 (h0 + 1) 0 (dS28_13 h0)).trans t2
      replace t3 : σ15 (h0 + 1) 4 = σ (h0 + 1) 4 := (w15 (h0 + 1) 4 (dS28_13 h0)).trans t3
      replace t4 : σ15 (h0 + 1) 5 = σ (h0 + 1) 5 := (w15 (h0 + 1) 5 (dS28_13 h0)).trans t4
      replace t5 : σ15 (h0 + 1) 6 = σ (h0 + 1) 6 := (w15 (h0 + 1) 6 (dS28_13 h0)).trans t5
      replace t6 : σ15 (h0 + 1) 1 = σ (h0 + 1) 1 := (w15 (h0 + 1) 1 (dS28_13 h0)).trans t6
      exact zz_iret hx hb hr hlocks hK hP hS dX9_become_21 (by exact ⟨hC, (hJ.soft (w15.mono (by intro a k h; omega))), Or.inl ⟨by omega, by omega, by rw [zz_DMk (a := h0 + 1) w15 (by intro i h1 h2; first | (dsimp only; omega) | omega)]⟩⟩)
theorem gX9_wonts_X9_notThere : GoodIn wzX9_wonts (wsV RX9 211 RX9 yX9_notThere wzX9_notThere) := wz_co bm_777 (wz_co bm_778 (wz_co bm_779 (wz_co bm_5 (wz_in bm_780))))
theorem gX9_wonts_X9_error : GoodIn wzX9_wonts (wsV RX9 94 RX9 yX9_error wzX9_error) := wz_co bm_146 (wz_co bm_147 (wz_co bm_148 (wz_co bm_5 (wz_in bm_149))))
theorem gX9_wonts_X9_in : GoodIn wzX9_wonts (va_wsS RX9 47 yX9_in wzX9_in) := wz_co bm_143 (wz_co bm_144 (wz_co bm_5 (wz_in bm_145)))
set_option maxHeartbeats 4000000 in
set_option maxRecDepth 100000 in
theorem c_X9_wonts (l : Launch) (E : zz_E) (σ : zz_S) (h0 : Nat) (sh : Int32) (g0 : zz_M E h0) (hJ : zz_IM σ h0) : Met l yX9_wonts wzX9_wonts ({ frames := 3, cells := 0, slots := 0, locals := 63 }) (va_Pc [.ref h0, .int sh] (zz_B E σ)) (va_Qi (fun r σ1 => zz_ch (fun a k => (a = h0 + 3 ∨ (h0 + 7 ≤ a ∧ a ≤ h0 + 11)) ∨ (a = h0 + 1 ∧ 61 ≤ k ∧ k < 73 ∧ k % 2 = 1)) σ σ1 ∧ (zz_IM σ1 h0 ∧ (((sh.toInt < 0 ∨ 3 < sh.toInt) ∧ r.toInt = -1000000001 ∧ zz_PM 0 σ1 (h0 + 1) = zz_PM 0 σ (h0 + 1)) ∨ ((0 ≤ sh.toInt ∧ sh.toInt ≤ 3) ∧ zz_HM σ (h0 + 4) sh.toInt.toNat = 0 ∧ r.toInt = -1000000002 ∧ zz_PM 0 σ1 (h0 + 1) = zz_PM 0 σ (h0 + 1)) ∨ ((0 ≤ sh.toInt ∧ sh.toInt ≤ 3) ∧ zz_HM σ (h0 + 4) sh.toInt.toNat ≠ 0 ∧ r.toInt = (zz_wr (zz_CM σ (h0 + 6) sh.toInt.toNat) (min (zz_HM σ (h0 + 5) sh.toInt.toNat) (σ (h0 + 1) 3).toInt).toNat 0 : Nat) ∧ zz_PM 0 σ1 (h0 + 1) = zz_wp (zz_CM σ (h0 + 6) sh.toInt.toNat) (zz_PM 0 σ (h0 + 1)) r.toInt)))) (zz_B E) (zz_A E)) 0 0 (zz_A E) := by
  refine zz_met (cc := cX9_wonts) (maxL := 4) (ret := (some .int)) (by decide) rfl (Nat.le_of_ble_eq_true rfl) ?_
  intro p e s m args below meth c ls hx hb hr hts hown hlocks hml hK hP hS hl
  have hl : lv_has ls 4 [(0, .ref h0), (1, .int sh)] := hl
  have hown : s.vm.findClass RX9 = some m.cls := hown
  have hi9 : ∀ w ∈ wsX90, w ∈ wzX9_wonts := fun w h => List.mem_cons_of_mem _ (hbw9 w h)
  have k_0 : (0 : Int32).toInt = 0 := by decide +kernel
  have k_1 : (1 : Int32).toInt = 1 := by decide +kernel
  have k_2 : (2 : Int32).toInt = 2 := by decide +kernel
  have k_3 : (3 : Int32).toInt = 3 := by decide +kernel
  have k_24 : (24 : Int32).toInt = 24 := by decide +kernel
  have k_61 : (61 : Int32).toInt = 61 := by decide +kernel
  have k_1023 : (1023 : Int32).toInt = 1023 := by decide +kernel
  replace t0 : σ (h0 + 1) 2 = σ (h0 + 1) 2 := rfl
  replace t1 : σ (h0 + 1) 3 = σ (h0 + 1) 3 := rfl
  replace t2 : σ (h0 + 1) 0 = σ (h0 + 1) 0 := rfl
  replace t3 : σ (h0 + 1) 4 = σ (h0 + 1) 4 := rfl
  replace t4 : σ (h0 + 1) 5 = σ (h0 + 1) 5 := rfl
  replace t5 : σ (h0 + 1) 6 = σ (h0 + 1) 6 := rfl
  replace t6 : σ (h0 + 1) 1 = σ (h0 + 1) 1 := rfl
  have hC : zz_ch (fun a k => (a = h0 + 3 ∨ (h0 + 7 ≤ a ∧ a ≤ h0 + 11)) ∨ (a = h0 + 1 ∧ 61 ≤ k ∧ k < 73 ∧ k % 2 = 1)) σ σ := zz_ch.rf σ
  have hI := hJ.1
  obtain ⟨hh, hsl, hd, hp, htc, hwc, hM, hT⟩ := id hI
  have hz5 := hJ.2.2.1
  have htr := hJ.2.2.2
  refine lv_aload_n hx hb dX9_wonts_0 rfl (lv_at hl 0 rfl) ?_
  refine lv_iload_n hx hb dX9_wonts_1 rfl (lv_at hl 1 rfl) ?_
  refine zz_callVp (As := [.int sh]) (rest := []) ⟨hx, hb, hml, hown, hts⟩ hK hP hS (c_X9_notThere l E σ h0 sh g0) (cwV 1 hts gX9_wonts_X9_notThere rfl rfl rfl (by decide +kernel) ⟨Nat.le_of_ble_eq_true rfl, Nat.le_of_ble_eq_true rfl⟩) (g0.1) rfl rfl hl.1 rfl (Nat.le_of_ble_eq_true rfl) dX9_wonts_2 ⟨Nat.zero_le _, Nat.zero_le _⟩ (fun r1 H locs f1 hP1 hS1 => ?_)
  replace hP := hP1
  replace hS := hS1
  clear hP1 hS1
  skip
  refine lv_istore_n (lv' := [(2, .int r1), (0, .ref h0), (1, .int sh)]) hx hb dX9_wonts_5 rfl hl (by decide) rfl (fun ls hl => ?_)
  refine lv_iload_n hx hb dX9_wonts_6 rfl (lv_at hl 0 rfl) ?_
  refine lv_if_eq (tgt := 16) hx hb dX9_wonts_7 (by decide) (fun c2 => ?_) (fun c2 => ?_)
  · have c2 := zz_eqT c2
    refine lv_iconst (v := 0) hx hb dX9_wonts_16 (by decide) ?_
    refine lv_istore_n (lv' := [(3, .int 0), (2, .int r1), (0, .ref h0), (1, .int sh)]) hx hb dX9_wonts_17 rfl hl (by decide) rfl (fun ls hl => ?_)
    have J18 : ∀ (n : Nat) (ii : Int32) (σa : zz_S) (H : Heap) (locs : List Loc) (ls : Array Slot), ((24 - ii.toInt).toNat) < n → (zz_ch (fun a k => (a = h0 + 3 ∨ (h0 + 7 ≤ a ∧ a ≤ h0 + 11)) ∨ (a = h0 + 1 ∧ 61 ≤ k ∧ k < 73 ∧ k % 2 = 1)) σ σa) → (0 ≤ ii.toInt) → (zz_wr (zz_CM σ (h0 + 6) sh.toInt.toNat) ((min (zz_HM σ (h0 + 5) sh.toInt.toNat) (σ (h0 + 1) 3).toInt).toNat - ii.toInt.toNat) ii.toInt.toNat = zz_wr (zz_CM σ (h0 + 6) sh.toInt.toNat) (min (zz_HM σ (h0 + 5) sh.toInt.toNat) (σ (h0 + 1) 3).toInt).toNat 0) → (zz_PM 0 σa (h0 + 1) = zz_wp (zz_CM σ (h0 + 6) sh.toInt.toNat) (zz_PM 0 σ (h0 + 1)) ii.toInt) → (σa (h0 + 1) 2 = σ (h0 + 1) 2) → (σa (h0 + 1) 3 = σ (h0 + 1) 3) → (σa (h0 + 1) 0 = σ (h0 + 1) 0) → (σa (h0 + 1) 4 = σ (h0 + 1) 4) → (σa (h0 + 1) 5 = σ (h0 + 1) 5) → (σa (h0 + 1) 6 = σ (h0 + 1) 6) → (σa (h0 + 1) 1 = σ (h0 + 1) 1) → zz_P E σa H → va_S (zz_A E) s.heap H locs → lv_has ls 4 [(3, .int ii), (2, .int r1), (0, .ref h0), (1, .int sh)] → W p l e (headSpec wzX9_wonts ({ frames := 3, cells := 0, slots := 0, locals := 63 })).room s m args below meth c H locs 0 0 (MQ below (va_Qi (fun r σ1 => zz_ch (fun a k => (a = h0 + 3 ∨ (h0 + 7 ≤ a ∧ a ≤ h0 + 11)) ∨ (a = h0 + 1 ∧ 61 ≤ k ∧ k < 73 ∧ k % 2 = 1)) σ σ1 ∧ (zz_IM σ1 h0 ∧ (((sh.toInt < 0 ∨ 3 < sh.toInt) ∧ r.toInt = -1000000001 ∧ zz_PM 0 σ1 (h0 + 1) = zz_PM 0 σ (h0 + 1)) ∨ ((0 ≤ sh.toInt ∧ sh.toInt ≤ 3) ∧ zz_HM σ (h0 + 4) sh.toInt.toNat = 0 ∧ r.toInt = -1000000002 ∧ zz_PM 0 σ1 (h0 + 1) = zz_PM 0 σ (h0 + 1)) ∨ ((0 ≤ sh.toInt ∧ sh.toInt ≤ 3) ∧ zz_HM σ (h0 + 4) sh.toInt.toNat ≠ 0 ∧ r.toInt = (zz_wr (zz_CM σ (h0 + 6) sh.toInt.toNat) (min (zz_HM σ (h0 + 5) sh.toInt.toNat) (σ (h0 + 1) 3).toInt).toNat 0 : Nat) ∧ zz_PM 0 σ1 (h0 + 1) = zz_wp (zz_CM σ (h0 + 6) sh.toInt.toNat) (zz_PM 0 σ (h0 + 1)) r.toInt)))) (zz_B E) (zz_A E)) args s 0 0 (zz_A E)) (F0 m 18 ls []) := by
      intro n
      induction n with
      | zero => intro ii σa H locs ls hm; exact absurd hm (Nat.not_lt_zero _)
      | succ n ih18 =>
        intro ii σa H locs ls hm hC f18_0 f18_1 f18_2 t0 t1 t2 t3 t4 t5 t6 hP hS hl
        refine lv_iload_n hx hb dX9_wonts_18 rfl (lv_at hl 0 rfl) ?_
        refine lv_aload_n hx hb dX9_wonts_19 rfl (lv_at hl 2 rfl) ?_
        refine zz_getr hx hb hts hi9 hown hK hP (g0.1) rfl 5 (by decide) (hts (.fieldLink RX9 22 "NoonLawModel" "sizeOf" "[I") (List.mem_cons_of_mem _ bm_97)) rfl rfl dX9_wonts_20 ?_
        refine lv_iload_n hx hb dX9_wonts_23 rfl (lv_at hl 3 rfl) ?_
        refine zz_iald hx hb hK hP (g0.2.2.2.2.2.1) (by omega) (by omega) dX9_wonts_24 (fun j3 q3 r3 => ?_)
        have hxs : zz_HM σ (h0 + 5) sh.toInt.toNat = (σa (h0 + 5) j3).toInt := by rw [show σa (h0 + 5) j3 = σ (h0 + 5) j3 from hC _ _ (by first | (dsimp only; omega) | omega)]; rw [show sh.toInt.toNat = j3 from by omega]; exact zz_HM.at r3
        have hz9 : zz_HM σ (h0 + 5) sh.toInt.toNat ≤ 24 := by rw [zz_HM.at (by omega)]; exact (hz5 _ (by omega)).2
        refine lv_icmp_ge (tgt := 87) hx hb dX9_wonts_25 (by decide) (fun c4 => ?_) (fun c4 => ?_)
        · have c4 := zz_leT c4
          refine lv_iload_n hx hb dX9_wonts_87 rfl (lv_at hl 0 rfl) ?_
          have hw9 := (zz_wr_0 (by omega) : zz_wr (zz_CM σ (h0 + 6) sh.toInt.toNat) ((min (zz_HM σ (h0 + 5) sh.toInt.toNat) (σ (h0 + 1) 3).toInt).toNat - ii.toInt.toNat) ii.toInt.toNat = ii.toInt.toNat)
          exact zz_iret hx hb hr hlocks hK hP hS dX9_wonts_88 (by exact ⟨hC, (hJ.row (hI.scal (fun k hk => hC _ _ (by first | (dsimp only; omega) | omega)) (fun j hj => by rw [hC _ _ (by first | (dsimp only; omega) | omega)]; exact hM j hj) (by rw [t2]; omega) (by rw [t3]; omega) (by rw [t0]; omega) (by rw [t1]; omega) (by rw [t4]; omega) (by rw [t5]; omega)) (hC.mono (by intro a k h; first | (dsimp only at h ⊢; omega) | omega))), Or.inr (Or.inr (⟨by omega, by omega, by rw [← f18_1, hw9]; omega, f18_2⟩))⟩)
        · have c4 := zz_nleT c4
          refine lv_iload_n hx hb dX9_wonts_28 rfl (lv_at hl 0 rfl) ?_
          refine lv_aload_n hx hb dX9_wonts_29 rfl (lv_at hl 2 rfl) ?_
          refine zz_getr hx hb hts hi9 hown hK hP (g0.1) rfl 0 (by decide) (hts (.fieldLink RX9 9 "NoonLawModel" "row" "[I") (List.mem_cons_of_mem _ bm_93)) rfl rfl dX9_wonts_30 ?_
          refine lv_iconst (v := 3) hx hb dX9_wonts_33 (by decide) ?_
          refine zz_ialc hx hb hK hP (g0.2.1) 3 (by decide) (by decide) t1 dX9_wonts_34 ?_
          refine lv_icmp_ge (tgt := 87) hx hb dX9_wonts_35 (by decide) (fun c6 => ?_) (fun c6 => ?_)
          · have c6 := zz_leT c6
            refine lv_iload_n hx hb dX9_wonts_87 rfl (lv_at hl 0 rfl) ?_
            have hw9 := (zz_wr_0 (by omega) : zz_wr (zz_CM σ (h0 + 6) sh.toInt.toNat) ((min (zz_HM σ (h0 + 5) sh.toInt.toNat) (σ (h0 + 1) 3).toInt).toNat - ii.toInt.toNat) ii.toInt.toNat = ii.toInt.toNat)
            exact zz_iret hx hb hr hlocks hK hP hS dX9_wonts_88 (by exact ⟨hC, (hJ.row (hI.scal (fun k hk => hC _ _ (by first | (dsimp only; omega) | omega)) (fun j hj => by rw [hC _ _ (by first | (dsimp only; omega) | omega)]; exact hM j hj) (by rw [t2]; omega) (by rw [t3]; omega) (by rw [t0]; omega) (by rw [t1]; omega) (by rw [t4]; omega) (by rw [t5]; omega)) (hC.mono (by intro a k h; first | (dsimp only at h ⊢; omega) | omega))), Or.inr (Or.inr (⟨by omega, by omega, by rw [← f18_1, hw9]; omega, f18_2⟩))⟩)
          · have c6 := zz_nleT c6
            refine lv_aload_n hx hb dX9_wonts_38 rfl (lv_at hl 2 rfl) ?_
            refine zz_getr hx hb hts hi9 hown hK hP (g0.1) rfl 6 (by decide) (hts (.fieldLink RX9 25 "NoonLawModel" "cells" "[I") (List.mem_cons_of_mem _ bm_98)) rfl rfl dX9_wonts_39 ?_
            refine lv_bipush (v := 24) hx hb dX9_wonts_42 (by decide) ?_
            refine lv_iload_n hx hb dX9_wonts_44 rfl (lv_at hl 3 rfl) ?_
            refine lv_imul hx hb dX9_wonts_45 ?_
            refine lv_topi (fun n7 e7 => ?_)
            have f7 : n7.toInt = 24 * (sh).toInt := zz_mulL 24 e7 (by decide) (by omega) (by omega)
            refine lv_iload_n hx hb dX9_wonts_46 rfl (lv_at hl 0 rfl) ?_
            refine lv_iadd hx hb dX9_wonts_47 ?_
            refine lv_topi (fun n8 e8 => ?_)
            have f8 : n8.toInt = (n7).toInt + (ii).toInt := zz_addT e8 (by omega) (by omega)
            refine zz_iald hx hb hK hP (g0.2.2.2.2.2.2.1) (by omega) (by omega) dX9_wonts_48 (fun j9 q9 r9 => ?_)
            have hcx : zz_CM σ (h0 + 6) sh.toInt.toNat ii.toInt.toNat = (σa (h0 + 6) j9).toInt := by rw [zz_CM.at (by omega) (by omega), show 24 * sh.toInt.toNat + ii.toInt.toNat = j9 from by omega]; exact (congrArg Int32.toInt (hC _ _ (by first | (dsimp only; omega) | omega))).symm
            refine lv_iconst (v := 0) hx hb dX9_wonts_49 (by decide) ?_
            refine lv_sipush (v := 1023) hx hb dX9_wonts_50 (by decide) ?_
            refine zz_callSp (As := [.int (σa (h0 + 6) j9), .int 0, .int 1023]) (rest := []) ⟨hx, hb, hml, hown, hts⟩ hK hP hS (c_X9_in l E σa (σa (h0 + 6) j9) 0 1023) (va_cwS 3 hts gX9_wonts_X9_in rfl rfl rfl (by decide +kernel) ⟨Nat.le_of_ble_eq_true rfl, Nat.le_of_ble_eq_true rfl⟩) rfl hl.1 rfl (Nat.le_of_ble_eq_true rfl) dX9_wonts_53 ⟨Nat.zero_le _, Nat.zero_le _⟩ (fun r10 H locs f10 hP1 hS1 => ?_)
            replace hP := hP1
            replace hS := hS1
            clear hP1 hS1
            try simp only [t0, t1, t2, t3, t4, t5, t6] at f10
            refine lv_if_eq (tgt := 87) hx hb dX9_wonts_56 (by decide) (fun c11 => ?_) (fun c11 => ?_)
            · have c11 := zz_eqT c11
              refine lv_iload_n hx hb dX9_wonts_87 rfl (lv_at hl 0 rfl) ?_
              have hw9 := (zz_wr_stop (by rw [hcx]; omega) : zz_wr (zz_CM σ (h0 + 6) sh.toInt.toNat) ((min (zz_HM σ (h0 + 5) sh.toInt.toNat) (σ (h0 + 1) 3).toInt).toNat - ii.toInt.toNat) ii.toInt.toNat = ii.toInt.toNat)
              exact zz_iret hx hb hr hlocks hK hP hS dX9_wonts_88 (by exact ⟨hC, (hJ.row (hI.scal (fun k hk => hC _ _ (by first | (dsimp only; omega) | omega)) (fun j hj => by rw [hC _ _ (by first | (dsimp only; omega) | omega)]; exact hM j hj) (by rw [t2]; omega) (by rw [t3]; omega) (by rw [t0]; omega) (by rw [t1]; omega) (by rw [t4]; omega) (by rw [t5]; omega)) (hC.mono (by intro a k h; first | (dsimp only at h ⊢; omega) | omega))), Or.inr (Or.inr (⟨by omega, by omega, by rw [← f18_1, hw9]; omega, f18_2⟩))⟩)
            · have c11 := zz_neT c11
              refine lv_aload_n hx hb dX9_wonts_59 rfl (lv_at hl 2 rfl) ?_
              refine zz_getr hx hb hts hi9 hown hK hP (g0.1) rfl 0 (by decide) (hts (.fieldLink RX9 9 "NoonLawModel" "row" "[I") (List.mem_cons_of_mem _ bm_93)) rfl rfl dX9_wonts_60 ?_
              refine lv_bipush (v := 61) hx hb dX9_wonts_63 (by decide) ?_
              refine lv_iconst (v := 2) hx hb dX9_wonts_65 (by decide) ?_
              refine lv_iload_n hx hb dX9_wonts_66 rfl (lv_at hl 0 rfl) ?_
              refine lv_imul hx hb dX9_wonts_67 ?_
              refine lv_topi (fun n12 e12 => ?_)
              have f12 : n12.toInt = 2 * (ii).toInt := zz_mulL 2 e12 (by decide) (by omega) (by omega)
              refine lv_iadd hx hb dX9_wonts_68 ?_
              refine lv_topi (fun n13 e13 => ?_)
              have f13 : n13.toInt = (61 : Int32).toInt + (n12).toInt := zz_addT e13 (by omega) (by omega)
              refine lv_aload_n hx hb dX9_wonts_69 rfl (lv_at hl 2 rfl) ?_
              refine zz_getr hx hb hts hi9 hown hK hP (g0.1) rfl 6 (by decide) (hts (.fieldLink RX9 25 "NoonLawModel" "cells" "[I") (List.mem_cons_of_mem _ bm_98)) rfl rfl dX9_wonts_70 ?_
              refine lv_bipush (v := 24) hx hb dX9_wonts_73 (by decide) ?_
              refine lv_iload_n hx hb dX9_wonts_75 rfl (lv_at hl 3 rfl) ?_
              refine lv_imul hx hb dX9_wonts_76 ?_
              refine lv_topi (fun n14 e14 => ?_)
              have f14 : n14.toInt = 24 * (sh).toInt := zz_mulL 24 e14 (by decide) (by omega) (by omega)
              refine lv_iload_n hx hb dX9_wonts_77 rfl (lv_at hl 0 rfl) ?_
              refine lv_iadd hx hb dX9_wonts_78 ?_
              refine lv_topi (fun n15 e15 => ?_)
              have f15 : n15.toInt = (n14).toInt + (ii).toInt := zz_addT e15 (by omega) (by omega)
              refine zz_iald hx hb hK hP (g0.2.2.2.2.2.2.1) (by omega) (by omega) dX9_wonts_79 (fun j16 q16 r16 => ?_)
              have hcv : (σa (h0 + 6) j16).toInt = zz_CM σ (h0 + 6) sh.toInt.toNat ii.toInt.toNat := by rw [hcx, show j16 = j9 from by omega]
              refine zz_iast hx hb hK hP hS (g0.2.1) (by omega) (by omega) dX9_wonts_80 (fun j17 σ17 H locs q17 r17 w17 hP1 hS1 => ?_)
              replace hP := hP1
              replace hS := hS1
              clear hP1 hS1
              replace hC := hC.u w17 (by first | (dsimp only; omega) | omega | (dsimp only; done))
              replace t0 : σ17 (h0 + 1) 2 = σ (h0 + 1) 2 := (zz_w (b := (h0 + 1)) (j := 2) w17 (by omega)).trans t0
              replace t1 : σ17 (h0 + 1) 3 = σ (h0 + 1) 3 := (zz_w (b := (h0 + 1)) (j := 3) w17 (by omega)).trans t1
              replace t2 : σ17 (h0 + 1) 0 = σ (h0 + 1) 0 := (zz_w (b := (h0 + 1)) (j := 0) w17 (by omega)).trans t2
              replace t3 : σ17 (h0 + 1) 4 = σ (h0 + 1) 4 := (zz_w (b := (h0 + 1)) (j := 4) w17 (by omega)).trans t3
              replace t4 : σ17 (h0 + 1) 5 = σ (h0 + 1) 5 := (zz_w (b := (h0 + 1)) (j := 5) w17 (by omega)).trans t4
              replace t5 : σ17 (h0 + 1) 6 = σ (h0 + 1) 6 := (zz_w (b := (h0 + 1)) (j := 6) w17 (by omega)).trans t5
              replace t6 : σ17 (h0 + 1) 1 = σ (h0 + 1) 1 := (zz_w (b := (h0 + 1)) (j := 1) w17 (by omega)).trans t6
              obtain ⟨n18, e18⟩ : ∃ y : Int32, y = ii + 1 := ⟨_, rfl⟩
              have f18 : n18.toInt = (ii).toInt + (1) := by have h9 := zz_addT e18 (by omega) (by omega); omega
              refine lv_iinc (v := n18) (lv' := [(3, .int n18), (2, .int r1), (0, .ref h0), (1, .int sh)]) hx hb dX9_wonts_81 hl (k := 0) rfl (by rw [e18]; rfl) (by decide) rfl (fun ls hl => ?_)
              refine lv_goto (tgt := 18) hx hb dX9_wonts_84 (by decide) ?_
              exact ih18 n18 σ17 _ _ _ (by omega) hC (by first | omega | exact hI | exact hT) (by rw [← f18_1, show n18.toInt.toNat = ii.toInt.toNat + 1 from by omega, zz_wr_go (by rw [hcx]; omega) (by omega : 0 < (min (zz_HM σ (h0 + 5) sh.toInt.toNat) (σ (h0 + 1) 3).toInt).toNat - ii.toInt.toNat)]; exact congrArg (fun q => zz_wr (zz_CM σ (h0 + 6) sh.toInt.toNat) q (ii.toInt.toNat + 1)) (by omega)) (by rw [zz_PMw (d := ii.toInt) ii.toInt.toNat 0 w17 (by omega) (by omega) (by omega) (by decide), f18_2, hcv, show n18.toInt = ii.toInt + 1 from by omega]; exact zz_wp_s _ _ (by omega)) t0 t1 t2 t3 t4 t5 t6 hP hS (lv_sub hl [0, 1, 2, 3] rfl)
    exact J18 _ 0 σ _ _ _ (Nat.lt_succ_self _) hC (by first | omega | exact hI | exact hT) (by rw [show ((0 : Int32).toInt.toNat) = 0 from by decide, Nat.sub_zero]) (by funext j; unfold zz_wp; rw [if_neg (by omega)]) t0 t1 t2 t3 t4 t5 t6 hP hS (lv_sub hl [0, 1, 2, 3] rfl)
  · have c2 := zz_neT c2
    refine lv_aload_n hx hb dX9_wonts_10 rfl (lv_at hl 1 rfl) ?_
    refine lv_iload_n hx hb dX9_wonts_11 rfl (lv_at hl 0 rfl) ?_
    refine zz_callVi (As := [.int r1]) (rest := []) ⟨hx, hb, hml, hown, hts⟩ hK hP hS (c_X9_error l E σ h0 r1 g0 (by omega)) (cwV 1 hts gX9_wonts_X9_error rfl rfl rfl (by decide +kernel) ⟨Nat.le_of_ble_eq_true rfl, Nat.le_of_ble_eq_true rfl⟩) (g0.1) rfl rfl hl.1 rfl (Nat.le_of_ble_eq_true rfl) dX9_wonts_12 ⟨Nat.zero_le _, Nat.zero_le _⟩ (fun r19 σ19 H locs q19 hP1 hS1 => ?_)
    replace hP := hP1
    replace hS := hS1
    clear hP1 hS1
    try dsimp only at q19
    obtain ⟨w19, f19⟩ := q19
    replace hC := hC.tr (w19.mono (dS28_15 h0))
    replace t0 : σ19 (h0 + 1) 2 = σ (h0 + 1) 2 := (w19 (h0 + 1) 2 (dS28_13 h0)).trans t0
    replace t1 : σ19 (h0 + 1) 3 = σ (h0 + 1) 3 := (w19 (h0 + 1) 3 (dS28_13 h0)).trans t1
    replace t2 : σ19 (h0 + 1) 0 = σ (h0 + 1) 0 := (w19 (h0 + 1) 0 (dS28_13 h0)).trans t2
    replace t3 : σ19 (h0 + 1) 4 = σ (h0 + 1) 4 := (w19 (h0 + 1) 4 (dS28_13 h0)).trans t3
    replace t4 : σ19 (h0 + 1) 5 = σ (h0 + 1) 5 := (w19 (h0 + 1) 5 (dS28_13 h0)).trans t4
    replace t5 : σ19 (h0 + 1) 6 = σ (h0 + 1) 6 := (w19 (h0 + 1) 6 (dS28_13 h0)).trans t5
    replace t6 : σ19 (h0 + 1) 1 = σ (h0 + 1) 1 := (w19 (h0 + 1) 1 (dS28_13 h0)).trans t6
    rcases f1 with z | z | z
    · exact zz_iret hx hb hr hlocks hK hP hS dX9_wonts_15 (by exact absurd z.1 (by omega))
    · exact zz_iret hx hb hr hlocks hK hP hS dX9_wonts_15 (by exact ⟨hC, (hJ.soft (w19.mono (by intro a k h; omega))), Or.inl ⟨by omega, by omega, by rw [zz_PMk (f := 0) (a := h0 + 1) w19 (by intro i hi; first | (dsimp only; omega) | omega)]⟩⟩)
    · exact zz_iret hx hb hr hlocks hK hP hS dX9_wonts_15 (by exact ⟨hC, (hJ.soft (w19.mono (by intro a k h; omega))), Or.inr (Or.inl ⟨by omega, by omega, by omega, by rw [zz_PMk (f := 0) (a := h0 + 1) w19 (by intro i hi; first | (dsimp only; omega) | omega)]⟩)⟩)
theorem gX9_untell_X9_in : GoodIn wzX9_untell (va_wsS RX9 47 yX9_in wzX9_in) := wz_co bm_143 (wz_co bm_144 (wz_co bm_5 (wz_in bm_145)))
theorem gX9_untell_X9_error : GoodIn wzX9_untell (wsV RX9 94 RX9 yX9_error wzX9_error) := wz_co bm_146 (wz_co bm_147 (wz_co bm_148 (wz_co bm_5 (wz_in bm_149))))
theorem gX9_untell_X9_becomes : GoodIn wzX9_untell (wsV RX9 104 RX9 yX9_becomes wzX9_becomes) := wz_co bm_278 (wz_co bm_279 (wz_co bm_280 (wz_co bm_5 (wz_in bm_281))))
theorem dS28_16 (x0 : Nat) : ∀ a k : Nat, (a = (x0) + 3) → ((a = x0 + 3 ∨ (x0 + 7 ≤ a ∧ a ≤ x0 + 11)) ∨ (a = x0 + 1 ∧ (k = 157 ∨ k = 278))) := by intro a k h; omega
set_option maxHeartbeats 4000000 in
set_option maxRecDepth 100000 in
theorem c_X9_untell (l : Launch) (E : zz_E) (σ : zz_S) (h0 : Nat) (use : Int32) (g0 : zz_M E h0) (hJ : zz_IM σ h0) : Met l yX9_untell wzX9_untell ({ frames := 1, cells := 0, slots := 0, locals := 23 }) (va_Pc [.ref h0, .int use] (zz_B E σ)) (va_Qi (fun r σ1 => zz_ch (fun a k => (a = h0 + 3 ∨ (h0 + 7 ≤ a ∧ a ≤ h0 + 11)) ∨ (a = h0 + 1 ∧ (k = 157 ∨ k = 278))) σ σ1 ∧ (zz_IM σ1 h0 ∧ (((use.toInt < 0 ∨ 1 < use.toInt) ∧ r.toInt = -1000000001 ∧ zz_MT σ1 (h0 + 1) = zz_MT σ (h0 + 1)) ∨ ((0 ≤ use.toInt ∧ use.toInt ≤ 1) ∧ ((0 < (zz_MT σ (h0 + 1) use.toInt.toNat).1 ∧ r.toInt = 1) ∨ ((zz_MT σ (h0 + 1) use.toInt.toNat).1 ≤ 0 ∧ r.toInt = 0)) ∧ zz_MT σ1 (h0 + 1) = zz_mw (zz_MT σ (h0 + 1)) use.toInt (0, (fun _ => 0), (fun _ => 0)))))) (zz_B E) (zz_A E)) 0 0 (zz_A E) := by
  refine zz_met (cc := cX9_untell) (maxL := 2) (ret := (some .int)) (by decide) rfl (Nat.le_of_ble_eq_true rfl) ?_
  intro p e s m args below meth c ls hx hb hr hts hown hlocks hml hK hP hS hl
  have hl : lv_has ls 2 [(0, .ref h0), (1, .int use)] := hl
  have hown : s.vm.findClass RX9 = some m.cls := hown
  have k_m1000000001 : ((-1000000001) : Int32).toInt = -1000000001 := by decide +kernel
  have k_0 : (0 : Int32).toInt = 0 := by decide +kernel
  have k_1 : (1 : Int32).toInt = 1 := by decide +kernel
  have k_121 : (121 : Int32).toInt = 121 := by decide +kernel
  have k_157 : (157 : Int32).toInt = 157 := by decide +kernel
  replace t0 : σ (h0 + 1) 2 = σ (h0 + 1) 2 := rfl
  replace t1 : σ (h0 + 1) 3 = σ (h0 + 1) 3 := rfl
  replace t2 : σ (h0 + 1) 0 = σ (h0 + 1) 0 := rfl
  replace t3 : σ (h0 + 1) 4 = σ (h0 + 1) 4 := rfl
  replace t4 : σ (h0 + 1) 5 = σ (h0 + 1) 5 := rfl
  replace t5 : σ (h0 + 1) 6 = σ (h0 + 1) 6 := rfl
  replace t6 : σ (h0 + 1) 1 = σ (h0 + 1) 1 := rfl
  have hC : zz_ch (fun a k => (a = h0 + 3 ∨ (h0 + 7 ≤ a ∧ a ≤ h0 + 11)) ∨ (a = h0 + 1 ∧ (k = 157 ∨ k = 278))) σ σ := zz_ch.rf σ
  have hI := hJ.1
  obtain ⟨hh, hsl, hd, hp, htc, hwc, hM, hT⟩ := id hI
  have hz5 := hJ.2.2.1
  have htr := hJ.2.2.2
  refine lv_iload_n hx hb dX9_untell_0 rfl (lv_at hl 1 rfl) ?_
  refine lv_iconst (v := 0) hx hb dX9_untell_1 (by decide) ?_
  refine lv_iconst (v := 1) hx hb dX9_untell_2 (by decide) ?_
  refine zz_callSp (As := [.int use, .int 0, .int 1]) (rest := []) ⟨hx, hb, hml, hown, hts⟩ hK hP hS (c_X9_in l E σ use 0 1) (va_cwS 3 hts gX9_untell_X9_in rfl rfl rfl (by decide +kernel) ⟨Nat.le_of_ble_eq_true rfl, Nat.le_of_ble_eq_true rfl⟩) rfl hl.1 rfl (Nat.le_of_ble_eq_true rfl) dX9_untell_3 ⟨Nat.zero_le _, Nat.zero_le _⟩ (fun r1 H locs f1 hP1 hS1 => ?_)
  replace hP := hP1
  replace hS := hS1
  clear hP1 hS1
  refine lv_if_ne (tgt := 16) hx hb dX9_untell_6 (by decide) (fun c2 => ?_) (fun c2 => ?_)
  · have c2 := zz_neT c2
    refine lv_aload_n hx hb dX9_untell_16 rfl (lv_at hl 0 rfl) ?_
    refine lv_sipush (v := 157) hx hb dX9_untell_17 (by decide) ?_
    refine lv_bipush (v := 121) hx hb dX9_untell_20 (by decide) ?_
    refine lv_iload_n hx hb dX9_untell_22 rfl (lv_at hl 1 rfl) ?_
    refine lv_imul hx hb dX9_untell_23 ?_
    refine lv_topi (fun n3 e3 => ?_)
    have f3 : n3.toInt = 121 * (use).toInt := zz_mulL 121 e3 (by decide) (by omega) (by omega)
    refine lv_iadd hx hb dX9_untell_24 ?_
    refine lv_topi (fun n4 e4 => ?_)
    have f4 : n4.toInt = (157 : Int32).toInt + (n3).toInt := zz_addT e4 (by omega) (by omega)
    refine lv_iconst (v := 0) hx hb dX9_untell_25 (by decide) ?_
    skip
    refine zz_callVi (As := [.int n4, .int 0]) (rest := []) ⟨hx, hb, hml, hown, hts⟩ hK hP hS (c_X9_becomes l E σ h0 n4 0 g0 (by omega)) (cwV 2 hts gX9_untell_X9_becomes rfl rfl rfl (by decide +kernel) ⟨Nat.le_of_ble_eq_true rfl, Nat.le_of_ble_eq_true rfl⟩) (g0.1) rfl rfl hl.1 rfl (Nat.le_of_ble_eq_true rfl) dX9_untell_26 ⟨Nat.zero_le _, Nat.zero_le _⟩ (fun r5 σ5 H locs q5 hP1 hS1 => ?_)
    replace hP := hP1
    replace hS := hS1
    clear hP1 hS1
    try dsimp only at q5
    obtain ⟨w5, f5⟩ := q5
    replace hC := hC.tr (w5.mono (by intro a k h; first | (dsimp only at h ⊢; omega) | omega | (dsimp only at h; omega) | (dsimp only; omega)))
    replace t0 : σ5 (h0 + 1) 2 = σ (h0 + 1) 2 := (w5 _ _ (by first | (dsimp only; omega) | omega)).trans t0
    replace t1 : σ5 (h0 + 1) 3 = σ (h0 + 1) 3 := (w5 _ _ (by first | (dsimp only; omega) | omega)).trans t1
    replace t2 : σ5 (h0 + 1) 0 = σ (h0 + 1) 0 := (w5 _ _ (by first | (dsimp only; omega) | omega)).trans t2
    replace t3 : σ5 (h0 + 1) 4 = σ (h0 + 1) 4 := (w5 _ _ (by first | (dsimp only; omega) | omega)).trans t3
    replace t4 : σ5 (h0 + 1) 5 = σ (h0 + 1) 5 := (w5 _ _ (by first | (dsimp only; omega) | omega)).trans t4
    replace t5 : σ5 (h0 + 1) 6 = σ (h0 + 1) 6 := (w5 _ _ (by first | (dsimp only; omega) | omega)).trans t5
    replace t6 : σ5 (h0 + 1) 1 = σ (h0 + 1) 1 := (w5 _ _ (by first | (dsimp only; omega) | omega)).trans t6
    refine lv_if_le (tgt := 36) hx hb dX9_untell_29 (by decide) (fun c6 => ?_) (fun c6 => ?_)
    · have c6 := zz_leT c6
      refine lv_iconst (v := 0) hx hb dX9_untell_36 (by decide) ?_
      have hu9 : n4.toInt.toNat = 157 + 121 * use.toInt.toNat := by omega
      have hm9 : (zz_MT σ (h0 + 1) use.toInt.toNat).1 = r5.toInt := by rw [f5.1, hu9]; simp only [zz_MT]; rw [if_pos (by omega)]
      exact zz_iret hx hb hr hlocks hK hP hS dX9_untell_37 (by exact ⟨hC, (hJ.row (hI.none (u := use.toInt.toNat) (by omega) (by rw [← hu9, f5.2.1]; exact k_0) (fun k hk => w5 _ _ (by first | (dsimp only; omega) | omega))) (hC.mono (by intro a k h; first | (dsimp only at h ⊢; omega) | omega))), Or.inr ⟨by omega, by rw [hm9]; omega, zz_MT.zero f5.2.2 hu9 (by omega) (by omega) k_0 (fun v hv => (hT v hv).1.2)⟩⟩)
    · have c6 := zz_nleT c6
      refine lv_iconst (v := 1) hx hb dX9_untell_32 (by decide) ?_
      refine lv_goto (tgt := 37) hx hb dX9_untell_33 (by decide) ?_
      have hu9 : n4.toInt.toNat = 157 + 121 * use.toInt.toNat := by omega
      have hm9 : (zz_MT σ (h0 + 1) use.toInt.toNat).1 = r5.toInt := by rw [f5.1, hu9]; simp only [zz_MT]; rw [if_pos (by omega)]
      exact zz_iret hx hb hr hlocks hK hP hS dX9_untell_37 (by exact ⟨hC, (hJ.row (hI.none (u := use.toInt.toNat) (by omega) (by rw [← hu9, f5.2.1]; exact k_0) (fun k hk => w5 _ _ (by first | (dsimp only; omega) | omega))) (hC.mono (by intro a k h; first | (dsimp only at h ⊢; omega) | omega))), Or.inr ⟨by omega, by rw [hm9]; omega, zz_MT.zero f5.2.2 hu9 (by omega) (by omega) k_0 (fun v hv => (hT v hv).1.2)⟩⟩)
  · have c2 := zz_eqT c2
    refine lv_aload_n hx hb dX9_untell_9 rfl (lv_at hl 0 rfl) ?_
    refine lv_ldc (v := (-1000000001)) hx hb hown (hts (.constant RX9 93 (-1000000001)) (List.mem_cons_of_mem _ bm_138)) dX9_untell_10 ?_
    refine zz_callVi (As := [.int (-1000000001)]) (rest := []) ⟨hx, hb, hml, hown, hts⟩ hK hP hS (c_X9_error l E σ h0 (-1000000001) g0 (by omega)) (cwV 1 hts gX9_untell_X9_error rfl rfl rfl (by decide +kernel) ⟨Nat.le_of_ble_eq_true rfl, Nat.le_of_ble_eq_true rfl⟩) (g0.1) rfl rfl hl.1 rfl (Nat.le_of_ble_eq_true rfl) dX9_untell_12 ⟨Nat.zero_le _, Nat.zero_le _⟩ (fun r7 σ7 H locs q7 hP1 hS1 => ?_)
    replace hP := hP1
    replace hS := hS1
    clear hP1 hS1
    try dsimp only at q7
    obtain ⟨w7, f7⟩ := q7
    replace hC := hC.tr (w7.mono (dS28_16 h0))
    replace t0 : σ7 (h0 + 1) 2 = σ (h0 + 1) 2 := (w7 (h0 + 1) 2 (dS28_13 h0)).trans t0
    replace t1 : σ7 (h0 + 1) 3 = σ (h0 + 1) 3 := (w7 (h0 + 1) 3 (dS28_13 h0)).trans t1
    replace t2 : σ7 (h0 + 1) 0 = σ (h0 + 1) 0 := (w7 (h0 + 1) 0 (dS28_13 h0)).trans t2
    replace t3 : σ7 (h0 + 1) 4 = σ (h0 + 1) 4 := (w7 (h0 + 1) 4 (dS28_13 h0)).trans t3
    replace t4 : σ7 (h0 + 1) 5 = σ (h0 + 1) 5 := (w7 (h0 + 1) 5 (dS28_13 h0)).trans t4
    replace t5 : σ7 (h0 + 1) 6 = σ (h0 + 1) 6 := (w7 (h0 + 1) 6 (dS28_13 h0)).trans t5
    replace t6 : σ7 (h0 + 1) 1 = σ (h0 + 1) 1 := (w7 (h0 + 1) 1 (dS28_13 h0)).trans t6
    exact zz_iret hx hb hr hlocks hK hP hS dX9_untell_15 (by exact ⟨hC, (hJ.soft (w7.mono (by intro a k h; omega))), Or.inl ⟨by omega, by omega, (zz_MT.eq (fun k _ _ => w7 _ _ (by first | (dsimp only; omega) | omega)) (fun u hu => (hT u hu).1.2))⟩⟩)
